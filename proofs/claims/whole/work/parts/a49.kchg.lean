
/-! ONE SIDE: a change is read, 5: the whole of it -/
/-! an act that was read: no sums behind its last -/
def ACn (t : ab_H) (k : Nat) (a : ac_T) : Prop := ∃ kc ks fc fs vw, ACo t k kc ks a fc fs vw ∧ ∀ j, (aSs a).length ≤ j → fs j = none
def PWr (B : Nat → Nat) (n m : Nat) (C : co_T) (t : ab_H) (i sl k0 kc ks : Nat) (r : pz_T (ac_T × Nat × Option Nat)) : Option Value → ab_H → Nat → Prop := fun v h q => ∃ a i' nl' C' t', (r = .inr (a, i', nl') ∧ some (.ref (241 + k0)) = v ∧ (tkS B n m C' i' ∧ lfK (C'.1 21 6) nl' ∧ frF C C') ∧ ACn t' k0 a ∧ tlR k0 kc ks i i' sl q t t') ∧ MH C' t' = h
section CHG
variable {L : Nat} {xs : Nat → Int32} {B : Nat → Nat} {n m : Nat} {C C' C0 C1 : co_T} {t t0 t1 : ab_H} {d sl sl0 sl1 i i0 i1 j b e k k0 kc ks w c : Nat} {sc : sc_T} {row : Option Nat} {tg : Option (Nat × Nat)} {nl : Option Nat} {kd0 tb0 : Int32} {P : Option Value → ab_H → Nat → Prop} {X : Nat → ab_H → Nat → Prop} {cs : List Nat} {ss : List (Option (List op_T))} {E : fe_T}
set_option maxRecDepth 100000 in
theorem c85 (hk : k0 ≠ ks ∧ k0 ≠ kc ∧ ks ≠ kc) (hkt : k0 < t1.length ∧ ks < t1.length ∧ kc < t1.length) (A : SEs B n m C1 t1 i1 sl1 k0 kc ks w (nI e) (nI b) cs ss i nl C t sl) (he : e < 3) (R : RX C1 sc (some b) tg false) (hz : nzp (rWhr (tkP B n) sc tg e b ((cs, ss), i, nl))) : Wd L xs (d + 60) y_85 (50, [(2, .ref (241 + k0)), (1, .int (nI e)), (0, .ref 120)], [], MH C t, sl) (PWr B n m C1 t1 i1 sl1 k0 kc ks (rWhr (tkP B n) sc tg e b ((cs, ss), i, nl))) (XAc B n C1 t1 i1 sl1 k0 kc ks (rWhr (tkP B n) sc tg e b ((cs, ss), i, nl))) := by
  obtain ⟨⟨S, hl, hF⟩, ⟨fc, fs, A1, A2, A3, A4⟩, ⟨D1, D2, D3, D4⟩, ⟨B1, B2, B3, B4, B5⟩, B6⟩ := A
  by_cases h43 : kd B n i = 43
  · have h43' : (tkP B n).1 i = 43 := h43
    have er : rWhr (tkP B n) sc tg e b ((cs, ss), i, nl) = pb (rFm (fE (tkP B n) sc (some b) tg) 8 (i + 1) nl) (fun x => .inr ((e, some b, cs, ss, some x.1, 0), x.2)) := if_pos h43'
    rw [er] at hz
    have hS2 := nxT_S S (by rw [h43]; decide) (by rw [h43]; decide)
    have hF2 : frF C1 (nxT B n C i) := frF_t hF (frF_N nxT_fr)
    have hl2 : lfK ((nxT B n C i).1 21 6) nl := by rw [nxT_fr.1 21 6 (by omega)]; exact hl
    have hR2 := RX_F R hF2
    have hEk : eK B n (nxT B n C i) (fE (tkP B n) sc (some b) tg) := RX_e hR2
    have hg : (nxT B n C i).1 21 10 = ck false := hR2.2.2.2
    cases hr : rd (fE (tkP B n) sc (some b) tg) 6000 8 (i + 1, [], 0, nl) with
    | inl ce =>
      obtain ⟨c2, j⟩ := ce
      have f1 : rFm (fE (tkP B n) sc (some b) tg) 8 (i + 1) nl = .inl (c2, j) := by
        unfold rFm
        rw [hr]
      have hc : c2 ≠ 0 := fun e => hz j (by rw [pb_l f1, e])
      have hcl := m_55e (L := L) (xs := xs) (t := t) (d := d) (sl := 0) hS2 hEk hl2 hc hr
      have hij : i + 1 ≤ j := rd_ij hr hc
      refine w_p (pc1 := 51) rfl rfl ?_
      refine w_m0 (pc1 := 54) rfl rfl (h_gC rfl rfl rfl rfl) rfl ?_
      refine w_m0 (pc1 := 57) (st1 := .ref 43 :: _) rfl rfl rfl rfl ?_
      refine w_je (pc1 := 60) (vs := [.ref 101, .ref 43]) (rest := []) (st1 := [.int 1]) (m_44y (d := d + 58) (sl := 0) S (by decide) h43 (by decide) (by decide)) rfl rfl rfl (fun _ _ => rfl) rfl (by exact cl_v my_44 rfl rfl rfl (Nat.le_of_ble_eq_true rfl) rfl (MH_obj rfl rfl) rfl (by decide) rfl rfl) (by rfl) (Nat.le_of_ble_eq_true rfl) (Nat.le_of_ble_eq_true rfl) rfl (by rfl) ?_
      refine w_f (a := 74) (b := 63) rfl rfl rfl ?_
      refine w_p (pc1 := 64) rfl rfl ?_
      refine w_p (pc1 := 65) rfl rfl ?_
      refine w_m0 (pc1 := 68) rfl rfl (h_gC rfl rfl rfl rfl) rfl ?_
      refine w_ji (pc1 := 71) (vs := [.ref 121]) (rest := [.ref (241 + k0)]) (hcl) rfl rfl rfl (fun _ _ => rfl) rfl (by exact cl_v my_55 rfl rfl rfl (Nat.le_of_ble_eq_true rfl) rfl (MH_obj rfl rfl) rfl (by decide) rfl rfl) (by rfl) (Nat.le_of_ble_eq_true rfl) (Nat.le_of_ble_eq_true rfl) rfl (fun v h1 d1 hq => ?_) (fun a h1 d1 hq => ?_)
      · exact hq.elim
      · rcases hq with ⟨C2, f2, s2, ha, hh, hn⟩
        · subst ha; subst hh; subst hn
          refine Or.inl ⟨ch_new (by decide) rfl, ?_⟩
          refine ⟨c2, j, _, t, sl + 0 + 0, ⟨er.trans (pb_l f1), flt_rf.1, frD_t (frD_F (frF_t hF2 f2)) flt_rf.2, B1, by omega, by omega, by omega, by omega⟩, rfl, ?_, by omega⟩
          with_reducible rfl
    | inr z =>
      have f1 : rFm (fE (tkP B n) sc (some b) tg) 8 (i + 1) nl = .inr (z.2.1, z.1, z.2.2.2) := by
        unfold rFm
        rw [hr]
      have hcl := m_55 (L := L) (xs := xs) (t := t) (d := d) (sl := 0) hS2 hEk hl2 hg (by omega) hr
      have hfl := rd_fle _ _ _ _ hr
      have hf1 : z.2.1.length + (i + 1) ≤ 0 + z.1 := hfl.2.1
      have hpr := rd_p1 rfl hS2 (Or.inr rfl) hr
      have hm6 := tkS_600 S
      refine w_p (pc1 := 51) rfl rfl ?_
      refine w_m0 (pc1 := 54) rfl rfl (h_gC rfl rfl rfl rfl) rfl ?_
      refine w_m0 (pc1 := 57) (st1 := .ref 43 :: _) rfl rfl rfl rfl ?_
      refine w_je (pc1 := 60) (vs := [.ref 101, .ref 43]) (rest := []) (st1 := [.int 1]) (m_44y (d := d + 58) (sl := 0) S (by decide) h43 (by decide) (by decide)) rfl rfl rfl (fun _ _ => rfl) rfl (by exact cl_v my_44 rfl rfl rfl (Nat.le_of_ble_eq_true rfl) rfl (MH_obj rfl rfl) rfl (by decide) rfl rfl) (by rfl) (Nat.le_of_ble_eq_true rfl) (Nat.le_of_ble_eq_true rfl) rfl (by rfl) ?_
      refine w_f (a := 74) (b := 63) rfl rfl rfl ?_
      refine w_p (pc1 := 64) rfl rfl ?_
      refine w_p (pc1 := 65) rfl rfl ?_
      refine w_m0 (pc1 := 68) rfl rfl (h_gC rfl rfl rfl rfl) rfl ?_
      refine w_ji (pc1 := 71) (vs := [.ref 121]) (rest := [.ref (241 + k0)]) (hcl) rfl rfl rfl (fun _ _ => rfl) rfl (by exact cl_v my_55 rfl rfl rfl (Nat.le_of_ble_eq_true rfl) rfl (MH_obj rfl rfl) rfl (by decide) rfl rfl) (by rfl) (Nat.le_of_ble_eq_true rfl) (Nat.le_of_ble_eq_true rfl) rfl (fun v h q hq => ?_) (fun _ _ _ e => e.elim)
      obtain ⟨rfl, ⟨C2, t2, ⟨y1, y2, y3, ⟨s0, y4⟩, y5, y6⟩, rfl⟩, rfl⟩ := hq
      have A1' : AP t2 k0 kc ks (nI e) (nI b) fc fs (nI ss.length) .null 0 := ⟨y5 _ _ A1.1, y5 _ _ A1.2.1, y5 _ _ A1.2.2⟩
      obtain ⟨t3, e3, g3, p3, q3⟩ := tl_st A1'.1 (.inr (9, [.int (nI e), .int (nI b), .ref (241 + kc), .ref (241 + ks), .int (nI ss.length), .ref (241 + t.length), .int 0]))
      refine w_m0 (pc1 := 74) rfl rfl (x_pf (k := k0) (fs' := [.int (nI (e)), .int (nI (b)), .ref (241 + kc), .ref (241 + ks), .int (nI (ss.length)), .ref (241 + t.length), .int 0]) rfl A1'.1 rfl rfl ⟨rfl, rfl⟩ (Or.inl rfl) (Nat.le_of_ble_eq_true rfl) rfl) rfl ?_
      rw [e3]
      refine w_p (pc1 := 75) rfl rfl ?_
      refine w_r rfl rfl rfl (fun _ _ => rfl) rfl ?_
      have hfo : ∀ {v : Value} {s : Option (List op_T)}, foN t1.length t2 0 v s → foK t3 0 v s := fun {v s} h => by
        rw [← e3]
        exact foN_K (foN_s hkt.1 h)
      have asz0 : asz (e, some b, cs, ss, some z.2.1, 0) = ss.length := if_neg (show ¬ (e = 3) by omega)
      refine ⟨(e, some b, cs, ss, some z.2.1, 0), z.1, z.2.2.2, C2, t3, ⟨er.trans (pb_r f1), rfl, ⟨y1, y2, frF_t hF2 y3⟩, ⟨kc, ks, fc, fs, .ref (241 + t.length), ⟨?_, p3 _ _ (Ne.symm hk.2.1) A1'.2.1, A2, p3 _ _ (Ne.symm hk.1) A1'.2.2, fun j s hj => hfo (foN_e y5 (A3 j s hj)), hfo ⟨t.length, s0, rfl, by omega, y4, by omega⟩⟩, A4⟩, fun j x h1 h2 h3 h => p3 _ _ h1 (y5 _ _ (B1 j x h1 h2 h3 h)), by omega, by omega, by omega, by omega⟩, ?_⟩
      · rw [asz0]
        exact g3
      · with_reducible rfl
  · have h43' : (tkP B n).1 i ≠ 43 := h43
    have er : rWhr (tkP B n) sc tg e b ((cs, ss), i, nl) = .inr ((e, some b, cs, ss, none, 0), i, nl) := if_neg h43'
    refine w_p (pc1 := 51) rfl rfl ?_
    refine w_m0 (pc1 := 54) rfl rfl (h_gC rfl rfl rfl rfl) rfl ?_
    refine w_m0 (pc1 := 57) (st1 := .ref 43 :: _) rfl rfl rfl rfl ?_
    refine w_je (pc1 := 60) (vs := [.ref 101, .ref 43]) (rest := []) (st1 := [.int 0]) (m_44n (d := d + 59) (sl := 0) S (by decide) h43) rfl rfl rfl (fun _ _ => rfl) rfl (by exact cl_v my_44 rfl rfl rfl (Nat.le_of_ble_eq_true rfl) rfl (MH_obj rfl rfl) rfl (by decide) rfl rfl) (by rfl) (Nat.le_of_ble_eq_true rfl) (Nat.le_of_ble_eq_true rfl) rfl (by rfl) ?_
    refine w_t (a := 74) (b := 63) rfl rfl rfl ?_
    refine w_p (pc1 := 75) rfl rfl ?_
    refine w_r rfl rfl rfl (fun _ _ => rfl) rfl ?_
    have asz0 : asz (e, some b, cs, ss, none, 0) = ss.length := if_neg (show ¬ (e = 3) by omega)
    refine ⟨(e, some b, cs, ss, none, 0), i, nl, C, t, ⟨er, rfl, ⟨S, hl, hF⟩, ⟨kc, ks, fc, fs, .null, ⟨?_, A1.2.1, A2, A1.2.2, fun j s hj => foN_K (A3 j s hj), rfl⟩, A4⟩, B1, by omega, by omega, by omega, by omega⟩, ?_⟩
    · rw [asz0]
      exact A1.1
    · with_reducible rfl
end CHG
