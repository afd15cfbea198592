
/-! ONE SIDE: a change is read, 5: the whole of it -/
/-! an act that was read: no sums behind its last -/
def ACn (t : ab_H) (k : Nat) (a : ac_T) : Prop := ∃ kc ks fc fs vw, ACo t k kc ks a fc fs vw ∧ ∀ j, (aSs a).length ≤ j → fs j = none
def PWr (B : Nat → Nat) (n m : Nat) (C : co_T) (t : ab_H) (i sl k0 kc ks : Nat) (r : pz_T (ac_T × Nat × Option Nat)) : Option Value → ab_H → Nat → Prop := fun v h q => ∃ a i' nl' C' t', (r = .inr (a, i', nl') ∧ some (.ref (241 + k0)) = v ∧ (tkS B n m C' i' ∧ lfK (C'.1 21 6) nl' ∧ frF C C') ∧ ACn t' k0 a ∧ tlR k0 kc ks i i' sl q t t') ∧ MH C' t' = h
section CHG
variable {L : Nat} {xs : Nat → Int32} {B : Nat → Nat} {n m : Nat} {C C' C0 C1 : co_T} {t t0 t1 : ab_H} {d sl sl0 sl1 i i0 i1 j b e k k0 kc ks w c : Nat} {sc : sc_T} {row : Option Nat} {tg : Option (Nat × Nat)} {nl : Option Nat} {kd0 tb0 : Int32} {P : Option Value → ab_H → Nat → Prop} {X : Nat → ab_H → Nat → Prop} {cs : List Nat} {ss : List (Option (List op_T))} {E : fe_T}
set_option maxRecDepth 100000 in
theorem c85 (hk : k0 ≠ ks ∧ k0 ≠ kc ∧ ks ≠ kc) (hkt : k0 < t1.length ∧ ks < t1.length ∧ kc < t1.length) (A : SEs B n m C1 t1 i1 sl1 k0 kc ks w (nI e) (nI b) cs ss i nl C t sl) (he : e < 3) (R : RX C1 sc (some b) tg false) (hz : nzp (rWhr (tkP B n) sc tg e b ((cs, ss), i, nl))) : Wd L xs (d + 60) y_85 (50, [(2, .ref (241 + k0)), (1, .int (nI e)), (0, .ref 120)], [], MH C t, sl) (PWr B n m C1 t1 i1 sl1 k0 kc ks (rWhr (tkP B n) sc tg e b ((cs, ss), i, nl))) (XAc B n C1 t1 i1 sl1 k0 kc ks (rWhr (tkP B n) sc tg e b ((cs, ss), i, nl))) := by
  obtain ⟨⟨S, hl, hF⟩, ⟨fc, fs, A1, A2, A3, A4⟩, ⟨D1, D2, D3, D4⟩, ⟨B1, B2, B3, B4, B5⟩, B6⟩ := A
  by_cases h43 : kd B n i = 43
  · have h43' : (tkP B n).1 i = 43 := h43
    have er : rWhr (tkP B n) sc tg e b ((cs, ss), i, nl) = pb (rFm (fE (tkP B n) sc (some b) tg) 8 (i + 1) nl) (fun x => .inr ((e, some b, cs, ss, some x.1, 0), x.2)) := if_pos h43'
    rw [er] at hz
    have hS2 := nxT_S S (by rw [h43]; decide) (by rw [h43]; decide)
    have hF2 : frF C1 (nxT B n C i) := frF_t hF (frF_N nxT_fr)
    have hl2 : lfK ((nxT B n C i).1 21 6) nl := by rw [nxT_fr.1 21 6 (by omega)]; exact hl
    have hR2 := RX_F R hF2
    have hEk : eK B n (nxT B n C i) (fE (tkP B n) sc (some b) tg) := RX_e hR2
    have hg : (nxT B n C i).1 21 10 = ck false := hR2.2.2.2
    cases hr : rd (fE (tkP B n) sc (some b) tg) 6000 8 (i + 1, [], 0, nl) with
    | inl ce =>
      obtain ⟨c2, j⟩ := ce
      have f1 : rFm (fE (tkP B n) sc (some b) tg) 8 (i + 1) nl = .inl (c2, j) := by
        unfold rFm
        rw [hr]
      have hc : c2 ≠ 0 := fun e => hz j (by rw [pb_l f1, e])
      have hcl := m_55e (L := L) (xs := xs) (t := t) (d := d) (sl := 0) hS2 hEk hl2 hc hr
      have hij : i + 1 ≤ j := rd_ij hr hc
      refine w_p (pc1 := 51) rfl rfl ?_
      refine w_m0 (pc1 := 54) rfl rfl (h_gC rfl rfl rfl rfl) rfl ?_
      refine w_m0 (pc1 := 57) (st1 := .ref 43 :: _) rfl rfl rfl rfl ?_
      refine w_je (pc1 := 60) (vs := [.ref 101, .ref 43]) (rest := []) (st1 := [.int 1]) (m_44y (d := d + 58) (sl := 0) S (by decide) h43 (by decide) (by decide)) rfl rfl rfl (fun _ _ => rfl) rfl (by exact cl_v my_44 rfl rfl rfl (Nat.le_of_ble_eq_true rfl) rfl (MH_obj rfl rfl) rfl (by decide) rfl rfl) (by rfl) (Nat.le_of_ble_eq_true rfl) (Nat.le_of_ble_eq_true rfl) rfl (by rfl) ?_
      refine w_f (a := 74) (b := 63) rfl rfl rfl ?_
      refine w_p (pc1 := 64) rfl rfl ?_
      refine w_p (pc1 := 65) rfl rfl ?_
      refine w_m0 (pc1 := 68) rfl rfl (h_gC rfl rfl rfl rfl) rfl ?_
      refine w_ji (pc1 := 71) (vs := [.ref 121]) (rest := [.ref (241 + k0)]) (hcl) rfl rfl rfl (fun _ _ => rfl) rfl (by exact cl_v my_55 rfl rfl rfl (Nat.le_of_ble_eq_true rfl) rfl (MH_obj rfl rfl) rfl (by decide) rfl rfl) (by rfl) (Nat.le_of_ble_eq_true rfl) (Nat.le_of_ble_eq_true rfl) rfl (fun v h1 d1 hq => ?_) (fun a h1 d1 hq => ?_)
      · exact hq.elim
      · rcases hq with ⟨C2, f2, s2, ha, hh, hn⟩
        · subst ha; subst hh; subst hn
          refine Or.inl ⟨ch_new (by decide) rfl, ?_⟩
          refine ⟨c2, j, _, t, sl + 0 + 0, ⟨er.trans (pb_l f1), flt_rf.1, frD_t (frD_F (frF_t hF2 f2)) flt_rf.2, B1, by omega, by omega, by omega, by omega⟩, rfl, ?_, by omega⟩
          with_reducible rfl
    | inr z =>
      have f1 : rFm (fE (tkP B n) sc (some b) tg) 8 (i + 1) nl = .inr (z.2.1, z.1, z.2.2.2) := by
        unfold rFm
        rw [hr]
      have hcl := m_55 (L := L) (xs := xs) (t := t) (d := d) (sl := 0) hS2 hEk hl2 hg (by omega) hr
      have hfl := rd_fle _ _ _ _ hr
      have hf1 : z.2.1.length + (i + 1) ≤ 0 + z.1 := hfl.2.1
      have hpr := rd_p1 rfl hS2 (Or.inr rfl) hr
      have hm6 := tkS_600 S
      refine w_p (pc1 := 51) rfl rfl ?_
      refine w_m0 (pc1 := 54) rfl rfl (h_gC rfl rfl rfl rfl) rfl ?_
      refine w_m0 (pc1 := 57) (st1 := .ref 43 :: _) rfl rfl rfl rfl ?_
      refine w_je (pc1 := 60) (vs := [.ref 101, .ref 43]) (rest := []) (st1 := [.int 1]) (m_44y (d := d + 58) (sl := 0) S (by decide) h43 (by decide) (by decide)) rfl rfl rfl (fun _ _ => rfl) rfl (by exact cl_v my_44 rfl rfl rfl (Nat.le_of_ble_eq_true rfl) rfl (MH_obj rfl rfl) rfl (by decide) rfl rfl) (by rfl) (Nat.le_of_ble_eq_true rfl) (Nat.le_of_ble_eq_true rfl) rfl (by rfl) ?_
      refine w_f (a := 74) (b := 63) rfl rfl rfl ?_
      refine w_p (pc1 := 64) rfl rfl ?_
      refine w_p (pc1 := 65) rfl rfl ?_
      refine w_m0 (pc1 := 68) rfl rfl (h_gC rfl rfl rfl rfl) rfl ?_
      refine w_ji (pc1 := 71) (vs := [.ref 121]) (rest := [.ref (241 + k0)]) (hcl) rfl rfl rfl (fun _ _ => rfl) rfl (by exact cl_v my_55 rfl rfl rfl (Nat.le_of_ble_eq_true rfl) rfl (MH_obj rfl rfl) rfl (by decide) rfl rfl) (by rfl) (Nat.le_of_ble_eq_true rfl) (Nat.le_of_ble_eq_true rfl) rfl (fun v h q hq => ?_) (fun _ _ _ e => e.elim)
      obtain ⟨rfl, ⟨C2, t2, ⟨y1, y2, y3, ⟨s0, y4⟩, y5, y6⟩, rfl⟩, rfl⟩ := hq
      have A1' : AP t2 k0 kc ks (nI e) (nI b) fc fs (nI ss.length) .null 0 := ⟨y5 _ _ A1.1, y5 _ _ A1.2.1, y5 _ _ A1.2.2⟩
      obtain ⟨t3, e3, g3, p3, q3⟩ := tl_st A1'.1 (.inr (9, [.int (nI e), .int (nI b), .ref (241 + kc), .ref (241 + ks), .int (nI ss.length), .ref (241 + t.length), .int 0]))
      refine w_m0 (pc1 := 74) rfl rfl (x_pf (k := k0) (fs' := [.int (nI (e)), .int (nI (b)), .ref (241 + kc), .ref (241 + ks), .int (nI (ss.length)), .ref (241 + t.length), .int 0]) rfl A1'.1 rfl rfl ⟨rfl, rfl⟩ (Or.inl rfl) (Nat.le_of_ble_eq_true rfl) rfl) rfl ?_
      rw [e3]
      refine w_p (pc1 := 75) rfl rfl ?_
      refine w_r rfl rfl rfl (fun _ _ => rfl) rfl ?_
      have hfo : ∀ {v : Value} {s : Option (List op_T)}, foN t1.length t2 0 v s → foK t3 0 v s := fun {v s} h => by
        rw [← e3]
        exact foN_K (foN_s hkt.1 h)
      have asz0 : asz (e, some b, cs, ss, some z.2.1, 0) = ss.length := if_neg (show ¬ (e = 3) by omega)
      refine ⟨(e, some b, cs, ss, some z.2.1, 0), z.1, z.2.2.2, C2, t3, ⟨er.trans (pb_r f1), rfl, ⟨y1, y2, frF_t hF2 y3⟩, ⟨kc, ks, fc, fs, .ref (241 + t.length), ⟨?_, p3 _ _ (Ne.symm hk.2.1) A1'.2.1, A2, p3 _ _ (Ne.symm hk.1) A1'.2.2, fun j s hj => hfo (foN_e y5 (A3 j s hj)), hfo ⟨t.length, s0, rfl, by omega, y4, by omega⟩⟩, A4⟩, fun j x h1 h2 h3 h => p3 _ _ h1 (y5 _ _ (B1 j x h1 h2 h3 h)), by omega, by omega, by omega, by omega⟩, ?_⟩
      · rw [asz0]
        exact g3
      · with_reducible rfl
  · have h43' : (tkP B n).1 i ≠ 43 := h43
    have er : rWhr (tkP B n) sc tg e b ((cs, ss), i, nl) = .inr ((e, some b, cs, ss, none, 0), i, nl) := if_neg h43'
    refine w_p (pc1 := 51) rfl rfl ?_
    refine w_m0 (pc1 := 54) rfl rfl (h_gC rfl rfl rfl rfl) rfl ?_
    refine w_m0 (pc1 := 57) (st1 := .ref 43 :: _) rfl rfl rfl rfl ?_
    refine w_je (pc1 := 60) (vs := [.ref 101, .ref 43]) (rest := []) (st1 := [.int 0]) (m_44n (d := d + 59) (sl := 0) S (by decide) h43) rfl rfl rfl (fun _ _ => rfl) rfl (by exact cl_v my_44 rfl rfl rfl (Nat.le_of_ble_eq_true rfl) rfl (MH_obj rfl rfl) rfl (by decide) rfl rfl) (by rfl) (Nat.le_of_ble_eq_true rfl) (Nat.le_of_ble_eq_true rfl) rfl (by rfl) ?_
    refine w_t (a := 74) (b := 63) rfl rfl rfl ?_
    refine w_p (pc1 := 75) rfl rfl ?_
    refine w_r rfl rfl rfl (fun _ _ => rfl) rfl ?_
    have asz0 : asz (e, some b, cs, ss, none, 0) = ss.length := if_neg (show ¬ (e = 3) by omega)
    refine ⟨(e, some b, cs, ss, none, 0), i, nl, C, t, ⟨er, rfl, ⟨S, hl, hF⟩, ⟨kc, ks, fc, fs, .null, ⟨?_, A1.2.1, A2, A1.2.2, fun j s hj => foN_K (A3 j s hj), rfl⟩, A4⟩, B1, by omega, by omega, by omega, by omega⟩, ?_⟩
    · rw [asz0]
      exact A1.1
    · with_reducible rfl
set_option maxRecDepth 100000 in
theorem rEvt_s {K : tv2} {i e i1 : Nat} (h : rEvt K i = .inr (e, i1)) : i1 = i + 1 ∧ e < 3 := by
  unfold rEvt at h
  split at h
  · cases h
  · rename_i e' he
    cases h
    rcases evt_s he with ⟨_, rfl⟩ | ⟨_, rfl⟩ | ⟨_, rfl⟩ <;> exact ⟨rfl, by decide⟩
set_option maxRecDepth 100000 in
theorem rEvt_j {K : tv2} {i j : Nat} {c : Int32} (h : rEvt K i = .inl (c, j)) : j = i := by
  unfold rEvt at h
  split at h
  · cases h; rfl
  · cases h
set_option maxRecDepth 100000 in
theorem rTab_i {K : tv2} {sc : sc_T} {i b i1 : Nat} (h : rTab K sc i = .inr (b, i1)) : i1 = i + 1 ∧ b < 6 ∧ sc.1 b ≠ 0 := by
  unfold rTab at h
  split at h
  · split at h
    · cases h
    · rename_i hf
      obtain ⟨b', e1, e2, e3, e4⟩ := tbF_b hf
      rw [e4] at h
      cases h
      exact ⟨rfl, e2, e3⟩
  · cases h
set_option maxRecDepth 100000 in
theorem rTab_j {K : tv2} {sc : sc_T} {i j : Nat} {c : Int32} (h : rTab K sc i = .inl (c, j)) : j = i := by
  unfold rTab at h
  split at h
  · split at h
    · cases h; rfl
    · cases h
  · cases h; rfl
set_option maxRecDepth 100000 in
theorem pb_inr {α β : Type} {r : pz_T α} {g : α → pz_T β} {y : β} (h : pb r g = .inr y) : ∃ a, r = .inr a ∧ g a = .inr y := by
  cases r with
  | inl e => cases h
  | inr a => exact ⟨a, rfl, h⟩
set_option maxRecDepth 100000 in
theorem rIns_a {K : tv2} {sc : sc_T} {tg : Option (Nat × Nat)} {b i i' : Nat} {nl nl' : Option Nat} {a : ac_T} (h : rIns K sc tg b i nl = .inr (a, i', nl')) : ∃ ss, a = (0, some b, [], ss, none, 0) ∧ ss.length = sc.2.1 b := by
  unfold rIns at h
  obtain ⟨j, _, h⟩ := pb_inr h
  obtain ⟨p, _, h⟩ := pb_inr h
  split at h
  · split at h
    · rename_i hw
      cases h
      exact ⟨p.1, rfl, hw⟩
    · cases h
  · cases h
set_option maxRecDepth 100000 in
theorem frN_t' {C1 C2 C3 : co_T} (h : frN C1 C2) (g : frN C2 C3) : frN C1 C3 := ⟨fun k j a => (g.1 k j a).trans (h.1 k j a), fun k j a => (g.2.1 k j a).trans (h.2.1 k j a), fun k j a => (g.2.2 k j a).trans (h.2.2 k j a)⟩
/-! tails that only grow -/
set_option maxRecDepth 100000 in
theorem tlR_E {t t3 t' : ab_H} {q i i' sl sl' : Nat} (h : ∀ j x, j ≠ t.length → t[j]? = some x → t3[j]? = some x) (R : tlR t.length (t.length + 1) (t.length + 1 + 1) i i' sl sl' t3 t') : tlE t t' := fun j x hx => by
  have := get_lt hx
  exact R.1 j x (by omega) (by omega) (by omega) (h j x (by omega) hx)
abbrev QCh (t : ab_H) : ac_T → co_T → ab_H → Option Value → Prop := fun a _ t' v => some (.ref (241 + t.length)) = v ∧ ACn t' t.length a
set_option maxRecDepth 100000 in
theorem RX_r (R : RX C sc none tg false) (hb : b < 6) : RX (sI C 21 7 (nI b)) sc (some b) tg false := by
  have e : ∀ j, 8 ≤ j → (sI C 21 7 (nI b)).1 21 j = C.1 21 j := fun j hj => by rw [sI_1, if_neg (by omega)]
  refine ⟨SCK_D R.1 (frD_I (by omega)), ⟨by rw [sI_1, if_pos ⟨rfl, rfl⟩]; rfl, fun b' h => by cases h; exact hb⟩, ⟨(e 8 (by omega)).trans R.2.2.1.1, fun p hp => ⟨(e 9 (by omega)).trans (R.2.2.1.2 p hp).1, (R.2.2.1.2 p hp).2⟩⟩, (e 10 (by omega)).trans R.2.2.2⟩
def PCh (B : Nat → Nat) (n m : Nat) (C : co_T) (t t1 : ab_H) (i sl : Nat) (r : pz_T (ac_T × Nat × Option Nat)) : Option Value → ab_H → Nat → Prop := fun v h q => ∃ a i' nl' C' t', (r = .inr (a, i', nl') ∧ some (.ref (241 + t.length)) = v ∧ (tkS B n m C' i' ∧ lfK (C'.1 21 6) nl' ∧ frRd C C') ∧ ACn t' t.length a ∧ tlR t.length (t.length + 1) (t.length + 1 + 1) i i' sl q t1 t') ∧ MH C' t' = h
set_option maxRecDepth 100000 in
theorem d85_0 (S : tkS B n m C1 i1) (hi : 1 ≤ i1) (hl : lfK (C1.1 21 6) nl) (R : RX C1 sc none tg false) (hb : b < 6) (hbt : sc.1 b ≠ 0) {fc : Nat → Int32} (A : AP t1 t.length (t.length + 1) (t.length + 1 + 1) (nI 0) (nI b) fc (fun _ => none) 0 .null 0) (hz : nzp (rIns (tkP B n) sc tg b i1 nl)) : Wd L xs (d + 60) y_85 (22, [(2, .ref (241 + t.length)), (1, .int 0), (0, .ref 120)], [], MH C1 t1, sl) (PCh B n m C1 t t1 i1 sl (rIns (tkP B n) sc tg b i1 nl)) (XAc B n C1 t1 i1 sl t.length (t.length + 1) (t.length + 1 + 1) (rIns (tkP B n) sc tg b i1 nl)) := by
  have hcl := m_86 (L := L) (xs := xs) (d := d + 2) (t := t1) (sl := 0) (k0 := t.length) (kc := t.length + 1) (ks := t.length + 1 + 1) ⟨by omega, by omega, by omega⟩ S hi hl R hb hbt A hz
  refine w_p (pc1 := 23) rfl rfl ?_
  refine w_p (pc1 := 24) rfl rfl ?_
  refine w_ji (pc1 := 27) (vs := [.ref 120, .ref (241 + t.length)]) (rest := []) (hcl) rfl rfl rfl (fun _ _ => rfl) rfl (by exact cl_v my_86 rfl rfl rfl (Nat.le_of_ble_eq_true rfl) rfl (MH_obj rfl rfl) rfl (by decide) rfl rfl) (by rfl) (Nat.le_of_ble_eq_true rfl) (Nat.le_of_ble_eq_true rfl) rfl (fun v h1 d1 hq => ?_) (fun a h1 d1 hq => ?_)
  · obtain ⟨a, i', nl', C2, t2, ⟨r1, hv, ⟨r2, r3, r4⟩, ⟨fc', fs', r5, r6, r7, r8⟩, r9⟩, hh⟩ := hq
    subst hv; subst hh
    refine w_p (pc1 := 28) rfl rfl ?_
    refine w_r rfl rfl rfl (fun _ _ => rfl) rfl ?_
    obtain ⟨ss, rfl, hss⟩ := rIns_a r1
    refine ⟨(0, some b, [], ss, none, 0), i', nl', C2, t2, ⟨r1, rfl, ⟨r2, r3, frRd_F r4⟩, ⟨t.length + 1, t.length + 1 + 1, fc', fs', .null, ⟨r5.1, r5.2.1, r6, r5.2.2, r7, rfl⟩, r8⟩, r9.1, r9.2.1, r9.2.2.1, ?_, r9.2.2.2.2⟩, ?_⟩
    · have := r9.2.2.2.1; omega
    · with_reducible rfl
  · rcases hq with ⟨c, j, C', t', s, ⟨x1, x2, x3, x4⟩, ha, hh, hn⟩
    · subst ha; subst hh; subst hn
      refine Or.inl ⟨ch_new (by decide) rfl, ?_⟩
      refine ⟨c, j, C', t', sl + 0 + s, ⟨x1, x2, x3, x4.1, x4.2.1, x4.2.2.1, ?_, x4.2.2.2.2⟩, rfl, ?_, by omega⟩
      · have := x4.2.2.2.1; omega
      · with_reducible rfl
set_option maxRecDepth 100000 in
theorem SEs_sl {s : Nat} (A : SEs B n m C0 t0 i0 sl0 k0 kc ks w kd0 tb0 cs ss i nl C t sl) : SEs B n m C0 t0 i0 (s + sl0) k0 kc ks w kd0 tb0 cs ss i nl C t (s + sl) := by
  obtain ⟨a1, a2, a3, ⟨b1, b2, b3, b4, b5⟩, b6⟩ := A
  exact ⟨a1, a2, a3, ⟨b1, b2, b3, by omega, b5⟩, b6⟩
set_option maxRecDepth 100000 in
theorem d85_1 (S : tkS B n m C1 i1) (hi : 1 ≤ i1) (hl : lfK (C1.1 21 6) nl) (R : RX C1 sc none tg false) (hb : b < 6) (hbt : sc.1 b ≠ 0) {fc : Nat → Int32} (A : AP t1 t.length (t.length + 1) (t.length + 1 + 1) (nI 1) (nI b) fc (fun _ => none) 0 .null 0) (hz : nzp (pb (rUpd (tkP B n) sc tg 1 b i1 nl) (rWhr (tkP B n) sc tg 1 b))) : Wd L xs (d + 60) y_85 (29, [(2, .ref (241 + t.length)), (1, .int 1), (0, .ref 120)], [], MH C1 t1, sl) (PCh B n m C1 t t1 i1 sl (pb (rUpd (tkP B n) sc tg 1 b i1 nl) (rWhr (tkP B n) sc tg 1 b))) (XAc B n C1 t1 i1 sl t.length (t.length + 1) (t.length + 1 + 1) (pb (rUpd (tkP B n) sc tg 1 b i1 nl) (rWhr (tkP B n) sc tg 1 b))) := by
  have S3 : tkS B n m (sI C1 21 7 (nI b)) i1 := tkS_F S (fun k j h => by rw [sI_1, if_neg (by omega)]) rfl
  have R3 := RX_r R hb
  have hl3 : lfK ((sI C1 21 7 (nI b)).1 21 6) nl := by rw [sI_1, if_neg (by omega)]; exact hl
  have hfr : frD C1 (sI C1 21 7 (nI b)) := frD_I (by omega)
  have hkk : t.length ≠ t.length + 1 + 1 ∧ t.length ≠ t.length + 1 ∧ t.length + 1 + 1 ≠ t.length + 1 := ⟨by omega, by omega, by omega⟩
  have hkt : t.length < t1.length ∧ t.length + 1 + 1 < t1.length ∧ t.length + 1 < t1.length := ⟨get_lt A.1, get_lt A.2.2, get_lt A.2.1⟩
  have hcl := m_87 (L := L) (xs := xs) (d := d + 2) (t := t1) (sl := 0) hkk S3 hi hl3 R3 hb A (nzp_b hz)
  refine w_p (pc1 := 30) rfl rfl ?_
  refine w_m0 (pc1 := 33) rfl rfl (h_gC rfl rfl rfl rfl) rfl ?_
  refine w_p (pc1 := 34) rfl rfl ?_
  refine w_m0 (pc1 := 37) (st1 := .int (nI (b)) :: _) rfl rfl (x_gf (k := t.length) rfl A.1 rfl) rfl ?_
  refine w_m0 (pc1 := 40) rfl rfl (h_pI (j := 7) rfl rfl rfl rfl rfl rfl rfl ⟨rfl, rfl⟩ rfl) rfl ?_
  refine w_p (pc1 := 41) rfl rfl ?_
  refine w_p (pc1 := 42) (st1 := .int 1 :: _) rfl rfl ?_
  refine w_f (a := 50) (b := 45) rfl rfl rfl ?_
  refine w_p (pc1 := 46) rfl rfl ?_
  refine w_p (pc1 := 47) rfl rfl ?_
  refine w_ji (pc1 := 50) (vs := [.ref 120, .ref (241 + t.length)]) (rest := []) (hcl) rfl rfl rfl (fun _ _ => rfl) rfl (by exact cl_v my_87 rfl rfl rfl (Nat.le_of_ble_eq_true rfl) rfl (MH_obj rfl rfl) rfl (by decide) rfl rfl) (by rfl) (Nat.le_of_ble_eq_true rfl) (Nat.le_of_ble_eq_true rfl) rfl (fun v h1 d1 hq => ?_) (fun a h1 d1 hq => ?_)
  · obtain ⟨a, i', nl', C2, t2, ⟨r1, hv, SE⟩, hh⟩ := hq
    subst hv; subst hh
    refine Wd_q (c85 (C1 := sI C1 21 7 (nI b)) (t1 := t1) (i1 := i1) (sl1 := sl + 0 + 0) (w := sc.2.1 b) hkk hkt (SEs_sl SE) (by decide) R3 (nzp_g r1 hz)) (fun v h q p => ?_) (fun a h q p => ?_)
    · obtain ⟨a2, i2, nl2, C2, t2, ⟨w1, w2, ⟨w3, w4, w5⟩, w6, w7⟩, w8⟩ := p
      exact ⟨a2, i2, nl2, C2, t2, ⟨(pb_r r1).trans w1, w2, ⟨w3, w4, frRd_t (frRd_I (by decide)) (frRd_F w5)⟩, w6, w7⟩, w8⟩
    · obtain ⟨c, j, C2, t2, s, ⟨x1, x2, x3, x4⟩, x5⟩ := p
      exact ⟨c, j, C2, t2, s, ⟨(pb_r r1).trans x1, x2, frD_t hfr x3, x4⟩, x5⟩
  · rcases hq with ⟨c, j, C', t', s, ⟨x1, x2, x3, x4⟩, ha, hh, hn⟩
    · subst ha; subst hh; subst hn
      refine Or.inl ⟨ch_new (by decide) rfl, ?_⟩
      refine ⟨c, j, C', t', sl + 0 + s, ⟨pb_l x1, x2, frD_t hfr x3, x4.1, x4.2.1, x4.2.2.1, ?_, x4.2.2.2.2⟩, rfl, ?_, by omega⟩
      · have := x4.2.2.2.1; omega
      · with_reducible rfl
set_option maxRecDepth 100000 in
theorem d85_2 (S : tkS B n m C1 i1) (hi : 1 ≤ i1) (hl : lfK (C1.1 21 6) nl) (R : RX C1 sc none tg false) (hb : b < 6) (hbt : sc.1 b ≠ 0) {fc : Nat → Int32} (A : AP t1 t.length (t.length + 1) (t.length + 1 + 1) (nI 2) (nI b) fc (fun _ => none) 0 .null 0) (hz : nzp (pb (rUpd (tkP B n) sc tg 2 b i1 nl) (rWhr (tkP B n) sc tg 2 b))) : Wd L xs (d + 60) y_85 (29, [(2, .ref (241 + t.length)), (1, .int 2), (0, .ref 120)], [], MH C1 t1, sl) (PCh B n m C1 t t1 i1 sl (pb (rUpd (tkP B n) sc tg 2 b i1 nl) (rWhr (tkP B n) sc tg 2 b))) (XAc B n C1 t1 i1 sl t.length (t.length + 1) (t.length + 1 + 1) (pb (rUpd (tkP B n) sc tg 2 b i1 nl) (rWhr (tkP B n) sc tg 2 b))) := by
  have S3 : tkS B n m (sI C1 21 7 (nI b)) i1 := tkS_F S (fun k j h => by rw [sI_1, if_neg (by omega)]) rfl
  have R3 := RX_r R hb
  have hl3 : lfK ((sI C1 21 7 (nI b)).1 21 6) nl := by rw [sI_1, if_neg (by omega)]; exact hl
  have hfr : frD C1 (sI C1 21 7 (nI b)) := frD_I (by omega)
  have hkk : t.length ≠ t.length + 1 + 1 ∧ t.length ≠ t.length + 1 ∧ t.length + 1 + 1 ≠ t.length + 1 := ⟨by omega, by omega, by omega⟩
  have hkt : t.length < t1.length ∧ t.length + 1 + 1 < t1.length ∧ t.length + 1 < t1.length := ⟨get_lt A.1, get_lt A.2.2, get_lt A.2.1⟩
  have r1 : rUpd (tkP B n) sc tg 2 b i1 nl = .inr (([], []), i1, nl) := if_neg (by decide)
  refine w_p (pc1 := 30) rfl rfl ?_
  refine w_m0 (pc1 := 33) rfl rfl (h_gC rfl rfl rfl rfl) rfl ?_
  refine w_p (pc1 := 34) rfl rfl ?_
  refine w_m0 (pc1 := 37) (st1 := .int (nI (b)) :: _) rfl rfl (x_gf (k := t.length) rfl A.1 rfl) rfl ?_
  refine w_m0 (pc1 := 40) rfl rfl (h_pI (j := 7) rfl rfl rfl rfl rfl rfl rfl ⟨rfl, rfl⟩ rfl) rfl ?_
  refine w_p (pc1 := 41) rfl rfl ?_
  refine w_p (pc1 := 42) (st1 := .int 1 :: _) rfl rfl ?_
  refine w_t (a := 50) (b := 45) rfl rfl rfl ?_
  refine Wd_q (c85 (C1 := sI C1 21 7 (nI b)) (t1 := t1) (i1 := i1) (sl1 := sl + 0) (w := sc.2.1 b) hkk hkt ⟨⟨S3, hl3, frF_r⟩, ⟨fc, _, A, (fun j x hj => by cases hj), (fun j s hj => by cases hj), fun _ _ => rfl⟩, ⟨rfl, by decide, (fun x hx => by cases hx), List.nodup_nil⟩, ⟨fun j x _ _ _ h => h, by omega, Nat.le_refl _, by omega, Nat.le_refl _⟩, by omega⟩ (by decide) R3 (nzp_g r1 hz)) (fun v h q p => ?_) (fun a h q p => ?_)
  · obtain ⟨a2, i2, nl2, C2, t2, ⟨w1, w2, ⟨w3, w4, w5⟩, w6, w7⟩, w8⟩ := p
    exact ⟨a2, i2, nl2, C2, t2, ⟨(pb_r r1).trans w1, w2, ⟨w3, w4, frRd_t (frRd_I (by decide)) (frRd_F w5)⟩, w6, w7⟩, w8⟩
  · obtain ⟨c, j, C2, t2, s, ⟨x1, x2, x3, x4⟩, x5⟩ := p
    exact ⟨c, j, C2, t2, s, ⟨(pb_r r1).trans x1, x2, frD_t hfr x3, x4⟩, x5⟩
set_option maxRecDepth 100000 in
theorem e85 (S : tkS B n m C1 i1) (hi : 1 ≤ i1) (hl : lfK (C1.1 21 6) nl) (R : RX C1 sc none tg false) (hb : b < 6) (hbt : sc.1 b ≠ 0) (he : e < 3) {fc : Nat → Int32} (A : AP t1 t.length (t.length + 1) (t.length + 1 + 1) (nI e) (nI b) fc (fun _ => none) 0 .null 0) (hz : nzp (if e = 0 then rIns (tkP B n) sc tg b i1 nl else pb (rUpd (tkP B n) sc tg e b i1 nl) (rWhr (tkP B n) sc tg e b))) : Wd L xs (d + 60) y_85 (18, [(2, .ref (241 + t.length)), (1, .int (nI e)), (0, .ref 120)], [], MH C1 t1, sl) (PCh B n m C1 t t1 i1 sl (if e = 0 then rIns (tkP B n) sc tg b i1 nl else pb (rUpd (tkP B n) sc tg e b i1 nl) (rWhr (tkP B n) sc tg e b))) (XAc B n C1 t1 i1 sl t.length (t.length + 1) (t.length + 1 + 1) (if e = 0 then rIns (tkP B n) sc tg b i1 nl else pb (rUpd (tkP B n) sc tg e b i1 nl) (rWhr (tkP B n) sc tg e b))) := by
  by_cases h0 : e = 0
  · subst h0
    rw [if_pos rfl] at hz ⊢
    refine w_p (pc1 := 19) rfl rfl ?_
    refine w_f (a := 29) (b := 22) (cb_ne_f (by rfl)) rfl rfl ?_
    exact d85_0 S hi hl R hb hbt A hz
  · rw [if_neg h0] at hz ⊢
    refine w_p (pc1 := 19) rfl rfl ?_
    refine w_t (a := 29) (b := 22) (cb_ne_t (fun q => h0 ((nK_inj (by omega) (by decide)).mp q))) rfl rfl ?_
    by_cases h1 : e = 1
    · subst h1
      exact d85_1 S hi hl R hb hbt A hz
    · obtain rfl : e = 2 := by omega
      exact d85_2 S hi hl R hb hbt A hz
set_option maxRecDepth 100000 in
theorem m_85 (S : tkS B n m C i) (hl : lfK (C.1 21 6) nl) (R : RX C sc none tg false) (hz : nzp (rChg (tkP B n) sc tg i nl)) : Wd L xs (d + 60) y_85 (0, [(0, .ref 120)], [], MH C t, sl) (PD B n m C t i sl (rChg (tkP B n) sc tg i nl) (QCh t)) (XD B n C t i sl (rChg (tkP B n) sc tg i nl)) := by
  refine w_p (pc1 := 1) rfl rfl ?_
  refine w_ji (pc1 := 4) (vs := [.ref 120]) (rest := []) (m_79 (d := d + 52) (sl := 0) S) rfl rfl rfl (fun _ _ => rfl) rfl (by exact cl_v my_79 rfl rfl rfl (Nat.le_of_ble_eq_true rfl) rfl (MH_obj rfl rfl) rfl (by decide) rfl rfl) (by rfl) (Nat.le_of_ble_eq_true rfl) (Nat.le_of_ble_eq_true rfl) rfl (fun v h1 d1 hq => ?_) (fun a h1 d1 hq => ?_)
  · obtain ⟨e, i1, C1, ⟨r1, hv, r3, r4⟩, hh, hn⟩ := hq
    subst hv; subst hh; subst hn
    obtain ⟨rfl, he⟩ := rEvt_s r1
    have er1 := pb_r (g := fun e => pb (rTab (tkP B n) sc e.2) (fun tb => if e.1 = 0 then rIns (tkP B n) sc tg tb.1 tb.2 nl else pb (rUpd (tkP B n) sc tg e.1 tb.1 tb.2 nl) (rWhr (tkP B n) sc tg e.1 tb.1))) r1
    have hz1 := nzp_g r1 hz
    have hS1 := SCK_D R.1 (frD_N r4)
    refine w_p (pc1 := 5) (al1 := [(1, .int (nI (e))), (0, .ref 120)]) rfl rfl ?_
    refine w_m (pc1 := 8) rfl rfl (x_nw (c := 9) (du := 7) (fs := [.int 0, .int 0, .null, .null, .int 0, .null, .int 0]) rfl rfl rfl rfl rfl) rfl ?_
    obtain ⟨t1, e1, n1, q1, l1⟩ := tl_mk t (.inr (9, [.int 0, .int 0, .null, .null, .int 0, .null, .int 0]))
    rw [e1]
    refine w_p (pc1 := 9) rfl rfl ?_
    refine w_p (pc1 := 10) rfl rfl ?_
    refine w_p (pc1 := 11) rfl rfl ?_
    refine w_ji (pc1 := 14) (vs := [.ref 120]) (rest := [.int (nI (e)), .ref (241 + t.length), .ref (241 + t.length)]) (m_74 (d := d + 52) (sl := 0) r3 hS1) rfl rfl rfl (fun _ _ => rfl) rfl (by exact cl_v my_74 rfl rfl rfl (Nat.le_of_ble_eq_true rfl) rfl (MH_obj rfl rfl) rfl (by decide) rfl rfl) (by rfl) (Nat.le_of_ble_eq_true rfl) (Nat.le_of_ble_eq_true rfl) rfl (fun v h1 d1 hq => ?_) (fun a h1 d1 hq => ?_)
    · obtain ⟨b, i2, C2, ⟨s1, hv, s3, s4⟩, hh, hn⟩ := hq
      subst hv; subst hh; subst hn
      obtain ⟨rfl, hb, hbt⟩ := rTab_i s1
      have er2 := er1.trans (pb_r s1)
      have hz2 := nzp_g s1 hz1
      have R2 := RX_F R (frF_N (frN_t' r4 s4))
      have hl2 : lfK (C2.1 21 6) nl := by rw [s4.1 21 6 (by omega), r4.1 21 6 (by omega)]; exact hl
      have ham := m_82 (L := L) (xs := xs) (C := C2) (d := d + 58) (sl := 0) (kd0 := nI e) (tb0 := nI b) n1
      refine w_ji (pc1 := 17) (vs := [.ref (241 + t.length), .int (nI (e)), .int (nI (b))]) (rest := [.ref (241 + t.length)]) (ham) rfl rfl rfl (fun _ _ => rfl) rfl (by exact cl_i my_82 rfl rfl rfl (Nat.le_of_ble_eq_true rfl) rfl rfl ⟨rfl, rfl, rfl⟩ rfl) (by rfl) (Nat.le_of_ble_eq_true rfl) (Nat.le_of_ble_eq_true rfl) rfl (fun v h q hq => ?_) (fun _ _ _ e => e.elim)
      obtain ⟨rfl, ⟨t3, ⟨A, l3, p3⟩, rfl⟩, rfl⟩ := hq
      rw [l1] at A l3
      refine w_p (pc1 := 18) (al1 := [(2, .ref (241 + t.length)), (1, .int (nI (e))), (0, .ref 120)]) rfl rfl ?_
      have hbr := fun j x (hj : j ≠ t.length) (h : t[j]? = some x) => p3 j x hj (q1 j x h)
      have hm6 := tkS_600 s3
      refine Wd_q (e85 (sl := sl + 0 + 7 + 0 + (0 + 12)) s3 (by omega) hl2 R2 hb hbt he A hz2) (fun v h q p => ?_) (fun a h q p => ?_)
      · obtain ⟨a2, i2, nl2, C3, t4, ⟨w1, w2, ⟨w3, w4, w5⟩, w6, w7⟩, w8⟩ := p
        have w9 := tlR_E (q := 0) hbr w7
        obtain ⟨_, y1, y2, y3, y4⟩ := w7
        exact ⟨a2, i2, nl2, C3, t4, ⟨er2.trans w1, ⟨w2, w6⟩, ⟨w3, w4⟩, frRd_t (frRd_N (frN_t' r4 s4)) w5, w9, by omega, by omega⟩, w8, by omega⟩
      · obtain ⟨c, j, C3, t4, s, ⟨x1, x2, x3, x4⟩, x5⟩ := p
        have w9 := tlR_E (q := 0) hbr x4
        obtain ⟨_, y1, y2, y3, y4⟩ := x4
        exact ⟨c, j, C3, t4, s, ⟨er2.trans x1, x2, frD_t (frD_N (frN_t' r4 s4)) x3, ⟨w9, by omega, by omega⟩, by omega⟩, x5⟩
    · rcases hq with ⟨c, j, ⟨x1, x2⟩, ha, hh, hn⟩
      · subst ha; subst hh; subst hn
        refine Or.inl ⟨ch_new (by decide) rfl, ?_⟩
        have := rTab_j x1
        refine ⟨c, j, _, t1, sl + 0 + 7 + 0, ⟨er1.trans (pb_l x1), flt_rf.1, frD_t (frD_N r4) flt_rf.2, ⟨q1, by omega, by omega⟩, by omega⟩, rfl, ?_, by omega⟩
        with_reducible rfl
  · rcases hq with ⟨c, j, ⟨x1, x2⟩, ha, hh, hn⟩
    · subst ha; subst hh; subst hn
      refine Or.inl ⟨ch_new (by decide) rfl, ?_⟩
      have := rEvt_j x1
      refine ⟨c, j, _, t, sl + 0, ⟨pb_l x1, flt_rf.1, frD_t (frD_r) flt_rf.2, ⟨tlE_r, by omega, by omega⟩, by omega⟩, rfl, ?_, by omega⟩
      with_reducible rfl
end CHG
