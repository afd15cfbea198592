
/-! ONE SIDE: a table is read, 9: references, what follows the names -/
def rOn (K : tv2) (w i : Nat) : pz_T (Nat × Nat) := if K.1 i = w then rAcn K (i + 1) else .inr (0, i)
def rRf5 (K : tv2) (T : tb_S) (b : Nat) (cs : List Nat) (tb : Nat) (ts : List Nat) (d1 u1 i : Nat) (nl : Option Nat) : pz_T (tb_S × Nat × Option Nat) := .inr (addR T (4, b, cs, some tb, ts, (rDef K i).1, d1, u1, none), (rDef K i).2, nl)
def rRf4 (K : tv2) (T : tb_S) (b : Nat) (cs : List Nat) (tb : Nat) (ts : List Nat) (d1 i : Nat) (nl : Option Nat) : pz_T (tb_S × Nat × Option Nat) := pb (rOn K 41 i) (fun u => rRf5 K T b cs tb ts d1 u.1 u.2 nl)
def rRf3 (K : tv2) (T : tb_S) (b : Nat) (cs : List Nat) (tb : Nat) (ts : List Nat) (i : Nat) (nl : Option Nat) : pz_T (tb_S × Nat × Option Nat) := pb (rOn K 15 i) (fun d => rRf4 K T b cs tb ts d.1 d.2 nl)
section TRF
variable {L : Nat} {xs : Nat → Int32} {B : Nat → Nat} {n m : Nat} {C C' C0 C1 : co_T} {t t0 t1 : ab_H} {d sl sl0 sl1 i i0 i1 j b e ti k k0 kc ks w c : Nat} {sc : sc_T} {row : Option Nat} {tg : Option (Nat × Nat)} {nl : Option Nat} {kd0 tb0 : Int32} {P : Option Value → ab_H → Nat → Prop} {X : Nat → ab_H → Nat → Prop} {cs : List Nat} {ss : List (Option (List op_T))} {E : fe_T} {tr : Nat → Option tr_T} {ru : Nat → Option ru_T} {T : tb_S} {s i2 sl2 tb d1 u1 : Nat} {C2 : co_T} {t2 : ab_H} {ts : List Nat}
def RFx (B : Nat → Nat) (n m : Nat) (C : co_T) (t : ab_H) (b s i sl : Nat) (cs : List Nat) (tb : Nat) (ts : List Nat) (d1 u1 : Nat) (C' : co_T) (t' : ab_H) (i' sl' : Nat) : Prop := (frN (nrC B n C i s t) C' ∧ tkS B n m C' i') ∧ (∃ fc ft, RP t' t.length (t.length + 1) (t.length + 1 + 1) 4 (nI b) fc ft (nI cs.length) (nI tb) 0 (nI d1) (nI u1) .null ∧ arI fc 0 cs ∧ arI ft 0 ts) ∧ (tlE t t' ∧ t'.length = t.length + 3 ∧ i + 1 ≤ i' ∧ sl' = sl + 22)
set_option maxRecDepth 100000 in
theorem rAcn_s {K : tv2} {i i1 e : Nat} (h : rAcn K i = .inr (e, i1)) : i1 = i + 1 := by
  unfold rAcn at h
  split at h
  · cases h
  · cases h; rfl
set_option maxRecDepth 100000 in
theorem rAcn_j {K : tv2} {i j : Nat} {c : Int32} (h : rAcn K i = .inl (c, j)) : j = i := by
  unfold rAcn at h
  split at h
  · cases h; rfl
  · cases h
set_option maxRecDepth 100000 in
theorem d73_5 (K : BK C t T) (hl : lfK (C.1 21 6) nl) (hN : ruN T.2.2 = nI s) (hs : s < 24) (hsn : C.2.2 11 s = none) (R : RFx B n m C t b s i sl cs tb ts d1 u1 C2 t2 i2 sl2) : Wd L xs (d + 9) y_73 (192, [(2, .int (nI ts.length)), (1, .ref (241 + t.length)), (0, .ref 120)], [], MH C2 t2, sl2) (PIt B n m C t i sl b (rRf5 (tkP B n) T b cs tb ts d1 u1 i2 nl)) (XIt B n C t i sl b (rRf5 (tkP B n) T b cs tb ts d1 u1 i2 nl)) := by
  obtain ⟨⟨F, S⟩, ⟨fc, ft, A, a1, a2⟩, q2, l2, hi2, hsl⟩ := R
  have hl2 : lfK (C2.1 21 6) nl := by rw [F.1 21 6 (by omega), sQ_1, nxT_fr.1 21 6 (by omega)]; exact hl
  by_cases h20 : kd B n i2 = 20
  · have ed : rDef (tkP B n) i2 = (true, i2 + 1) := if_pos h20
    have er : rRf5 (tkP B n) T b cs tb ts d1 u1 i2 nl = .inr (addR T (4, b, cs, some tb, ts, true, d1, u1, none), i2 + 1, nl) := by
      unfold rRf5
      rw [ed]
    obtain ⟨t3, e3, g3, p3, l3⟩ := tl_st A.1 (.inr (7, [.int 4, .int (nI b), .ref (241 + (t.length + 1)), .ref (241 + (t.length + 1 + 1)), .int (nI cs.length), .int (nI tb), .int 1, .int (nI d1), .int (nI u1), .null]))
    have q3 : tlE t t3 := fun j x h => p3 j x (by have := get_lt h; omega) (q2 j x h)
    have hU : RUK t3 t.length (4, b, cs, some tb, ts, true, d1, u1, none) := ⟨t.length + 1, t.length + 1 + 1, fc, ft, .null, ⟨g3, p3 _ _ (by omega) A.2.1, p3 _ _ (by omega) A.2.2, a1, a2⟩, rfl⟩
    have S3 := nxT_S S (by rw [h20]; decide) (by rw [h20]; decide)
    have F3 := frN_t' F (nxT_fr (B := B) (n := n) (C := C2) (i := i2))
    refine w_p (pc1 := 193) rfl rfl ?_
    refine w_p (pc1 := 194) rfl rfl ?_
    refine w_m0 (pc1 := 197) rfl rfl (h_gC rfl rfl rfl rfl) rfl ?_
    refine w_m0 (pc1 := 200) (st1 := .ref 20 :: _) rfl rfl rfl rfl ?_
    refine w_je (pc1 := 203) (vs := [.ref 101, .ref 20]) (rest := [.ref (241 + t.length)]) (st1 := [.int 1, .ref (241 + t.length)]) (m_44y (d := d + 7) (sl := 0) S (by decide) h20 (by decide) (by decide)) rfl rfl rfl (fun _ _ => rfl) rfl (by exact cl_v my_44 rfl rfl rfl (Nat.le_of_ble_eq_true rfl) rfl (MH_obj rfl rfl) rfl (by decide) rfl rfl) (by rfl) (Nat.le_of_ble_eq_true rfl) (Nat.le_of_ble_eq_true rfl) rfl (by rfl) ?_
    refine w_m0 (pc1 := 206) rfl rfl (x_pf (k := t.length) (fs' := [.int 4, .int (nI (b)), .ref (241 + (t.length + 1)), .ref (241 + (t.length + 1 + 1)), .int (nI (cs.length)), .int (nI (tb)), .int 1, .int (nI (d1)), .int (nI (u1)), .null]) rfl A.1 rfl rfl ⟨rfl, rfl⟩ (Or.inl rfl) (Nat.le_of_ble_eq_true rfl) rfl) rfl ?_
    rw [e3]
    refine w_r rfl rfl rfl (fun _ _ => rfl) rfl ?_
    refine ⟨addR T (4, b, cs, some tb, ts, true, d1, u1, none), i2 + 1, nl, _, t3, ⟨er, rfl, ⟨S3, ?_⟩, BK_48 K hN hs (frF_N F3) q3 hU, STB_48 hsn (frF_N F3) q3 g3, by omega, by omega⟩, ?_, by omega⟩
    · rw [nxT_fr.1 21 6 (by omega)]; exact hl2
    · with_reducible rfl
  · have ed : rDef (tkP B n) i2 = (false, i2) := if_neg h20
    have er : rRf5 (tkP B n) T b cs tb ts d1 u1 i2 nl = .inr (addR T (4, b, cs, some tb, ts, false, d1, u1, none), i2, nl) := by
      unfold rRf5
      rw [ed]
    obtain ⟨t3, e3, g3, p3, l3⟩ := tl_st A.1 (.inr (7, [.int 4, .int (nI b), .ref (241 + (t.length + 1)), .ref (241 + (t.length + 1 + 1)), .int (nI cs.length), .int (nI tb), .int 0, .int (nI d1), .int (nI u1), .null]))
    have q3 : tlE t t3 := fun j x h => p3 j x (by have := get_lt h; omega) (q2 j x h)
    have hU : RUK t3 t.length (4, b, cs, some tb, ts, false, d1, u1, none) := ⟨t.length + 1, t.length + 1 + 1, fc, ft, .null, ⟨g3, p3 _ _ (by omega) A.2.1, p3 _ _ (by omega) A.2.2, a1, a2⟩, rfl⟩
    refine w_p (pc1 := 193) rfl rfl ?_
    refine w_p (pc1 := 194) rfl rfl ?_
    refine w_m0 (pc1 := 197) rfl rfl (h_gC rfl rfl rfl rfl) rfl ?_
    refine w_m0 (pc1 := 200) (st1 := .ref 20 :: _) rfl rfl rfl rfl ?_
    refine w_je (pc1 := 203) (vs := [.ref 101, .ref 20]) (rest := [.ref (241 + t.length)]) (st1 := [.int 0, .ref (241 + t.length)]) (m_44n (d := d + 8) (sl := 0) S (by decide) h20) rfl rfl rfl (fun _ _ => rfl) rfl (by exact cl_v my_44 rfl rfl rfl (Nat.le_of_ble_eq_true rfl) rfl (MH_obj rfl rfl) rfl (by decide) rfl rfl) (by rfl) (Nat.le_of_ble_eq_true rfl) (Nat.le_of_ble_eq_true rfl) rfl (by rfl) ?_
    refine w_m0 (pc1 := 206) rfl rfl (x_pf (k := t.length) (fs' := [.int 4, .int (nI (b)), .ref (241 + (t.length + 1)), .ref (241 + (t.length + 1 + 1)), .int (nI (cs.length)), .int (nI (tb)), .int 0, .int (nI (d1)), .int (nI (u1)), .null]) rfl A.1 rfl rfl ⟨rfl, rfl⟩ (Or.inl rfl) (Nat.le_of_ble_eq_true rfl) rfl) rfl ?_
    rw [e3]
    refine w_r rfl rfl rfl (fun _ _ => rfl) rfl ?_
    refine ⟨addR T (4, b, cs, some tb, ts, false, d1, u1, none), i2, nl, _, t3, ⟨er, rfl, ⟨S, ?_⟩, BK_48 K hN hs (frF_N F) q3 hU, STB_48 hsn (frF_N F) q3 g3, by omega, by omega⟩, ?_, by omega⟩
    · exact hl2
    · with_reducible rfl
set_option maxRecDepth 100000 in
theorem d73_4 (K : BK C t T) (hl : lfK (C.1 21 6) nl) (hN : ruN T.2.2 = nI s) (hs : s < 24) (hsn : C.2.2 11 s = none) (R : RFx B n m C t b s i sl cs tb ts d1 0 C2 t2 i2 sl2) : Wd L xs (d + 9) y_73 (167, [(2, .int (nI ts.length)), (1, .ref (241 + t.length)), (0, .ref 120)], [], MH C2 t2, sl2) (PIt B n m C t i sl b (rRf4 (tkP B n) T b cs tb ts d1 i2 nl)) (XIt B n C t i sl b (rRf4 (tkP B n) T b cs tb ts d1 i2 nl)) := by
  obtain ⟨⟨F, S⟩, ⟨fc, ft, A, a1, a2⟩, q2, l2, hi2, hsl⟩ := R
  have hl2 : lfK (C2.1 21 6) nl := by rw [F.1 21 6 (by omega), sQ_1, nxT_fr.1 21 6 (by omega)]; exact hl
  by_cases hw : kd B n i2 = 41
  · have e0 : rOn (tkP B n) 41 i2 = rAcn (tkP B n) (i2 + 1) := if_pos hw
    have S3 := nxT_S S (by rw [hw]; decide) (by rw [hw]; decide)
    have F3 := frN_t' F (nxT_fr (B := B) (n := n) (C := C2) (i := i2))
    refine w_p (pc1 := 168) rfl rfl ?_
    refine w_p (pc1 := 169) rfl rfl ?_
    refine w_m0 (pc1 := 172) rfl rfl (h_gC rfl rfl rfl rfl) rfl ?_
    refine w_m0 (pc1 := 175) (st1 := .ref 41 :: _) rfl rfl rfl rfl ?_
    refine w_je (pc1 := 178) (vs := [.ref 101, .ref 41]) (rest := [.ref (241 + t.length)]) (st1 := [.int 1, .ref (241 + t.length)]) (m_44y (d := d + 7) (sl := 0) S (by decide) hw (by decide) (by decide)) rfl rfl rfl (fun _ _ => rfl) rfl (by exact cl_v my_44 rfl rfl rfl (Nat.le_of_ble_eq_true rfl) rfl (MH_obj rfl rfl) rfl (by decide) rfl rfl) (by rfl) (Nat.le_of_ble_eq_true rfl) (Nat.le_of_ble_eq_true rfl) rfl (by rfl) ?_
    refine w_f (a := 188) (b := 181) rfl rfl rfl ?_
    refine w_p (pc1 := 182) rfl rfl ?_
    refine w_ji (pc1 := 185) (vs := [.ref 120]) (rest := [.ref (241 + t.length)]) (m_77 (d := d) (sl := 0) S3) rfl rfl rfl (fun _ _ => rfl) rfl (by exact cl_v my_77 rfl rfl rfl (Nat.le_of_ble_eq_true rfl) rfl (MH_obj rfl rfl) rfl (by decide) rfl rfl) (by rfl) (Nat.le_of_ble_eq_true rfl) (Nat.le_of_ble_eq_true rfl) rfl (fun v h1 d1 hq => ?_) (fun a h1 d1 hq => ?_)
    · obtain ⟨a, i3, C3, ⟨r1, hv, r3, r4⟩, hh, hn⟩ := hq
      subst hv; subst hh; subst hn
      have hi3 := rAcn_s r1
      subst hi3
      have er : rRf4 (tkP B n) T b cs tb ts d1 i2 nl = rRf5 (tkP B n) T b cs tb ts d1 a (i2 + 1 + 1) nl := pb_r (e0.trans r1)
      have F4 := frN_t' F3 r4
      refine w_p (pc1 := 189) rfl rfl ?_
      obtain ⟨t3, e3, g3, p3, l3⟩ := tl_st A.1 (.inr (7, [.int 4, .int (nI b), .ref (241 + (t.length + 1)), .ref (241 + (t.length + 1 + 1)), .int (nI cs.length), .int (nI tb), .int 0, .int (nI d1), .int (nI a), .null]))
      have q3 : tlE t t3 := fun j x h => p3 j x (by have := get_lt h; omega) (q2 j x h)
      refine w_m0 (pc1 := 192) rfl rfl (x_pf (k := t.length) (fs' := [.int 4, .int (nI (b)), .ref (241 + (t.length + 1)), .ref (241 + (t.length + 1 + 1)), .int (nI (cs.length)), .int (nI (tb)), .int 0, .int (nI (d1)), .int (nI (a)), .null]) rfl A.1 rfl rfl ⟨rfl, rfl⟩ (Or.inl rfl) (Nat.le_of_ble_eq_true rfl) rfl) rfl ?_
      rw [e3]
      rw [er]
      exact d73_5 K hl hN hs hsn ⟨⟨F4, r3⟩, ⟨fc, ft, ⟨g3, p3 _ _ (by omega) A.2.1, p3 _ _ (by omega) A.2.2⟩, a1, a2⟩, q3, by omega, by omega, by omega⟩
    · rcases hq with ⟨c2, j, ⟨x1, x2⟩, ha, hh, hn⟩
      · subst ha; subst hh; subst hn
        refine Or.inl ⟨ch_new (by decide) rfl, ?_⟩
        have := rAcn_j x1
        refine ⟨c2, j, _, t2, sl2 + 0, ⟨pb_l (e0.trans x1), flt_rf.1, STB_t (STB_48 hsn (frF_N F3) q2 A.1) STB_rf, by omega, by omega, by omega⟩, rfl, ?_, by omega⟩
        with_reducible rfl
  · have e0 : rOn (tkP B n) 41 i2 = .inr (0, i2) := if_neg hw
    have er : rRf4 (tkP B n) T b cs tb ts d1 i2 nl = rRf5 (tkP B n) T b cs tb ts d1 0 i2 nl := pb_r e0
    refine w_p (pc1 := 168) rfl rfl ?_
    refine w_p (pc1 := 169) rfl rfl ?_
    refine w_m0 (pc1 := 172) rfl rfl (h_gC rfl rfl rfl rfl) rfl ?_
    refine w_m0 (pc1 := 175) (st1 := .ref 41 :: _) rfl rfl rfl rfl ?_
    refine w_je (pc1 := 178) (vs := [.ref 101, .ref 41]) (rest := [.ref (241 + t.length)]) (st1 := [.int 0, .ref (241 + t.length)]) (m_44n (d := d + 8) (sl := 0) S (by decide) hw) rfl rfl rfl (fun _ _ => rfl) rfl (by exact cl_v my_44 rfl rfl rfl (Nat.le_of_ble_eq_true rfl) rfl (MH_obj rfl rfl) rfl (by decide) rfl rfl) (by rfl) (Nat.le_of_ble_eq_true rfl) (Nat.le_of_ble_eq_true rfl) rfl (by rfl) ?_
    refine w_t (a := 188) (b := 181) rfl rfl rfl ?_
    refine w_p (pc1 := 189) (st1 := .int 0 :: _) rfl rfl ?_
    obtain ⟨t3, e3, g3, p3, l3⟩ := tl_st A.1 (.inr (7, [.int 4, .int (nI b), .ref (241 + (t.length + 1)), .ref (241 + (t.length + 1 + 1)), .int (nI cs.length), .int (nI tb), .int 0, .int (nI d1), .int (0), .null]))
    have q3 : tlE t t3 := fun j x h => p3 j x (by have := get_lt h; omega) (q2 j x h)
    refine w_m0 (pc1 := 192) rfl rfl (x_pf (k := t.length) (fs' := [.int 4, .int (nI (b)), .ref (241 + (t.length + 1)), .ref (241 + (t.length + 1 + 1)), .int (nI (cs.length)), .int (nI (tb)), .int 0, .int (nI (d1)), .int 0, .null]) rfl A.1 rfl rfl ⟨rfl, rfl⟩ (Or.inl rfl) (Nat.le_of_ble_eq_true rfl) rfl) rfl ?_
    rw [e3]
    rw [er]
    exact d73_5 K hl hN hs hsn ⟨⟨F, S⟩, ⟨fc, ft, ⟨g3, p3 _ _ (by omega) A.2.1, p3 _ _ (by omega) A.2.2⟩, a1, a2⟩, q3, by omega, by omega, by omega⟩
set_option maxRecDepth 100000 in
theorem d73_3 (K : BK C t T) (hl : lfK (C.1 21 6) nl) (hN : ruN T.2.2 = nI s) (hs : s < 24) (hsn : C.2.2 11 s = none) (R : RFx B n m C t b s i sl cs tb ts 0 0 C2 t2 i2 sl2) : Wd L xs (d + 9) y_73 (142, [(2, .int (nI ts.length)), (1, .ref (241 + t.length)), (0, .ref 120)], [], MH C2 t2, sl2) (PIt B n m C t i sl b (rRf3 (tkP B n) T b cs tb ts i2 nl)) (XIt B n C t i sl b (rRf3 (tkP B n) T b cs tb ts i2 nl)) := by
  obtain ⟨⟨F, S⟩, ⟨fc, ft, A, a1, a2⟩, q2, l2, hi2, hsl⟩ := R
  have hl2 : lfK (C2.1 21 6) nl := by rw [F.1 21 6 (by omega), sQ_1, nxT_fr.1 21 6 (by omega)]; exact hl
  by_cases hw : kd B n i2 = 15
  · have e0 : rOn (tkP B n) 15 i2 = rAcn (tkP B n) (i2 + 1) := if_pos hw
    have S3 := nxT_S S (by rw [hw]; decide) (by rw [hw]; decide)
    have F3 := frN_t' F (nxT_fr (B := B) (n := n) (C := C2) (i := i2))
    refine w_p (pc1 := 143) rfl rfl ?_
    refine w_p (pc1 := 144) rfl rfl ?_
    refine w_m0 (pc1 := 147) rfl rfl (h_gC rfl rfl rfl rfl) rfl ?_
    refine w_m0 (pc1 := 150) (st1 := .ref 15 :: _) rfl rfl rfl rfl ?_
    refine w_je (pc1 := 153) (vs := [.ref 101, .ref 15]) (rest := [.ref (241 + t.length)]) (st1 := [.int 1, .ref (241 + t.length)]) (m_44y (d := d + 7) (sl := 0) S (by decide) hw (by decide) (by decide)) rfl rfl rfl (fun _ _ => rfl) rfl (by exact cl_v my_44 rfl rfl rfl (Nat.le_of_ble_eq_true rfl) rfl (MH_obj rfl rfl) rfl (by decide) rfl rfl) (by rfl) (Nat.le_of_ble_eq_true rfl) (Nat.le_of_ble_eq_true rfl) rfl (by rfl) ?_
    refine w_f (a := 163) (b := 156) rfl rfl rfl ?_
    refine w_p (pc1 := 157) rfl rfl ?_
    refine w_ji (pc1 := 160) (vs := [.ref 120]) (rest := [.ref (241 + t.length)]) (m_77 (d := d) (sl := 0) S3) rfl rfl rfl (fun _ _ => rfl) rfl (by exact cl_v my_77 rfl rfl rfl (Nat.le_of_ble_eq_true rfl) rfl (MH_obj rfl rfl) rfl (by decide) rfl rfl) (by rfl) (Nat.le_of_ble_eq_true rfl) (Nat.le_of_ble_eq_true rfl) rfl (fun v h1 d1 hq => ?_) (fun a h1 d1 hq => ?_)
    · obtain ⟨a, i3, C3, ⟨r1, hv, r3, r4⟩, hh, hn⟩ := hq
      subst hv; subst hh; subst hn
      have hi3 := rAcn_s r1
      subst hi3
      have er : rRf3 (tkP B n) T b cs tb ts i2 nl = rRf4 (tkP B n) T b cs tb ts a (i2 + 1 + 1) nl := pb_r (e0.trans r1)
      have F4 := frN_t' F3 r4
      refine w_p (pc1 := 164) rfl rfl ?_
      obtain ⟨t3, e3, g3, p3, l3⟩ := tl_st A.1 (.inr (7, [.int 4, .int (nI b), .ref (241 + (t.length + 1)), .ref (241 + (t.length + 1 + 1)), .int (nI cs.length), .int (nI tb), .int 0, .int (nI a), .int (0), .null]))
      have q3 : tlE t t3 := fun j x h => p3 j x (by have := get_lt h; omega) (q2 j x h)
      refine w_m0 (pc1 := 167) rfl rfl (x_pf (k := t.length) (fs' := [.int 4, .int (nI (b)), .ref (241 + (t.length + 1)), .ref (241 + (t.length + 1 + 1)), .int (nI (cs.length)), .int (nI (tb)), .int 0, .int (nI (a)), .int 0, .null]) rfl A.1 rfl rfl ⟨rfl, rfl⟩ (Or.inl rfl) (Nat.le_of_ble_eq_true rfl) rfl) rfl ?_
      rw [e3]
      rw [er]
      exact d73_4 K hl hN hs hsn ⟨⟨F4, r3⟩, ⟨fc, ft, ⟨g3, p3 _ _ (by omega) A.2.1, p3 _ _ (by omega) A.2.2⟩, a1, a2⟩, q3, by omega, by omega, by omega⟩
    · rcases hq with ⟨c2, j, ⟨x1, x2⟩, ha, hh, hn⟩
      · subst ha; subst hh; subst hn
        refine Or.inl ⟨ch_new (by decide) rfl, ?_⟩
        have := rAcn_j x1
        refine ⟨c2, j, _, t2, sl2 + 0, ⟨pb_l (e0.trans x1), flt_rf.1, STB_t (STB_48 hsn (frF_N F3) q2 A.1) STB_rf, by omega, by omega, by omega⟩, rfl, ?_, by omega⟩
        with_reducible rfl
  · have e0 : rOn (tkP B n) 15 i2 = .inr (0, i2) := if_neg hw
    have er : rRf3 (tkP B n) T b cs tb ts i2 nl = rRf4 (tkP B n) T b cs tb ts 0 i2 nl := pb_r e0
    refine w_p (pc1 := 143) rfl rfl ?_
    refine w_p (pc1 := 144) rfl rfl ?_
    refine w_m0 (pc1 := 147) rfl rfl (h_gC rfl rfl rfl rfl) rfl ?_
    refine w_m0 (pc1 := 150) (st1 := .ref 15 :: _) rfl rfl rfl rfl ?_
    refine w_je (pc1 := 153) (vs := [.ref 101, .ref 15]) (rest := [.ref (241 + t.length)]) (st1 := [.int 0, .ref (241 + t.length)]) (m_44n (d := d + 8) (sl := 0) S (by decide) hw) rfl rfl rfl (fun _ _ => rfl) rfl (by exact cl_v my_44 rfl rfl rfl (Nat.le_of_ble_eq_true rfl) rfl (MH_obj rfl rfl) rfl (by decide) rfl rfl) (by rfl) (Nat.le_of_ble_eq_true rfl) (Nat.le_of_ble_eq_true rfl) rfl (by rfl) ?_
    refine w_t (a := 163) (b := 156) rfl rfl rfl ?_
    refine w_p (pc1 := 164) (st1 := .int 0 :: _) rfl rfl ?_
    obtain ⟨t3, e3, g3, p3, l3⟩ := tl_st A.1 (.inr (7, [.int 4, .int (nI b), .ref (241 + (t.length + 1)), .ref (241 + (t.length + 1 + 1)), .int (nI cs.length), .int (nI tb), .int 0, .int (0), .int (0), .null]))
    have q3 : tlE t t3 := fun j x h => p3 j x (by have := get_lt h; omega) (q2 j x h)
    refine w_m0 (pc1 := 167) rfl rfl (x_pf (k := t.length) (fs' := [.int 4, .int (nI (b)), .ref (241 + (t.length + 1)), .ref (241 + (t.length + 1 + 1)), .int (nI (cs.length)), .int (nI (tb)), .int 0, .int 0, .int 0, .null]) rfl A.1 rfl rfl ⟨rfl, rfl⟩ (Or.inl rfl) (Nat.le_of_ble_eq_true rfl) rfl) rfl ?_
    rw [e3]
    rw [er]
    exact d73_4 K hl hN hs hsn ⟨⟨F, S⟩, ⟨fc, ft, ⟨g3, p3 _ _ (by omega) A.2.1, p3 _ _ (by omega) A.2.2⟩, a1, a2⟩, q3, by omega, by omega, by omega⟩
end TRF
