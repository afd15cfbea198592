
/-! ONE SIDE: a table is read, 12: an item -/
def rItm (K : tv2) (T : tb_S) (b i : Nat) (nl : Option Nat) : pz_T (tb_S × Nat × Option Nat) := if K.1 i = 3 then rNwc K T b i nl else if K.1 i = 31 then rKey K T b 1 i nl else if K.1 i = 40 then rKey K T b 2 i nl else if K.1 i = 12 then rChk K T b i nl else if K.1 i = 33 then rRef K T b i nl else .inl (2, i)
section TIT
variable {L : Nat} {xs : Nat → Int32} {B : Nat → Nat} {n m : Nat} {C C' C0 C1 : co_T} {t t0 t1 : ab_H} {d sl sl0 sl1 i i0 i1 j b e ti k k0 kc ks w c : Nat} {sc : sc_T} {row : Option Nat} {tg : Option (Nat × Nat)} {nl : Option Nat} {kd0 tb0 : Int32} {P : Option Value → ab_H → Nat → Prop} {X : Nat → ab_H → Nat → Prop} {cs : List Nat} {ss : List (Option (List op_T))} {E : fe_T} {tr : Nat → Option tr_T} {ru : Nat → Option ru_T} {T : tb_S} {s : Nat}
set_option maxRecDepth 100000 in
theorem itm_0 : ∀ k : Fin 60, 1 ≤ k.1 → k.1 ≠ 3 → k.1 ≠ 31 → k.1 ≠ 40 → k.1 ≠ 12 → k.1 ≠ 33 → k.1 ≠ 24 → k.1 ≠ 28 → (tk_s.getD (k.1 - 1) 0).toInt < 22 ∨ 28 < (tk_s.getD (k.1 - 1) 0).toInt := by decide +kernel
set_option maxRecDepth 100000 in
theorem m_39 (S : tkS B n m C i) (hl : lfK (C.1 21 6) nl) (K : BK C t T) (hb : C.1 20 10 = nI b) (hb6 : b < 6) (hbt : T.1.1 b ≠ 0) (R : RX C T.1 (some b) none true) (ok : ∀ i u, T.2.2 i = some u → okRu u) (hz : nzp (rItm (tkP B n) T b i nl)) : Wd L xs (d + 60) y_39 (0, [(0, .ref 120)], [], MH C t, sl) (PIt B n m C t i sl b (rItm (tkP B n) T b i nl)) (XIt B n C t i sl b (rItm (tkP B n) T b i nl)) := by
  have hto := tkS_tok S
  by_cases hk3 : kd B n i = 3
  · have er : rItm (tkP B n) T b i nl = rNwc (tkP B n) T b i nl := if_pos hk3
    rw [hk3] at hto
    have h1 : kd B n i ≠ 1 := by rw [hk3]; decide
    have h2 : kd B n i ≠ 2 := by rw [hk3]; decide
    refine w_m0 (pc1 := 3) (st1 := .ref 61 :: _) rfl rfl rfl rfl ?_
    refine w_p (pc1 := 4) rfl rfl ?_
    refine w_m0 (pc1 := 7) rfl rfl (h_gC rfl rfl rfl rfl) rfl ?_
    refine w_m0 (pc1 := 10) (st1 := .ref 3 :: _) rfl rfl (h_gRs (j := 6) rfl rfl rfl rfl rfl (hto)) rfl ?_
    refine w_c (pc1 := 13) rfl rfl rfl (fun fr lo h1 h2 => n_or rfl (by decide) (by decide) h1 h2) rfl ?_
    refine w_m0 (pc1 := 14) rfl rfl (h_sw (by decide)) rfl ?_
    refine w_p (pc1 := 56) rfl rfl ?_
    refine w_p (pc1 := 57) rfl rfl ?_
    refine w_ji (pc1 := 60) (vs := [.ref 120]) (rest := []) (m_40 (d := d + 50) (sl := 0) S hl K hb hb6 hbt hk3) rfl rfl rfl (fun _ _ => rfl) rfl (by exact cl_v my_40 rfl rfl rfl (Nat.le_of_ble_eq_true rfl) rfl (MH_obj rfl rfl) rfl (by decide) rfl rfl) (by rfl) (Nat.le_of_ble_eq_true rfl) (Nat.le_of_ble_eq_true rfl) rfl (fun v h1 d1 hq => ?_) (fun a h1 d1 hq => ?_)
    · obtain ⟨T2, i2, nl2, C2, t2, ⟨p1, hv, p3⟩, hh, hq⟩ := hq
      subst hv; subst hh
      refine w_p (pc1 := 128) rfl rfl ?_
      refine w_r rfl rfl rfl (fun _ _ => rfl) rfl ?_
      refine ⟨T2, i2, nl2, C2, t2, ⟨er.trans p1, rfl, p3⟩, ?_, by omega⟩
      with_reducible rfl
    · rcases hq with ⟨c, j, C', t', s, ⟨x1, x2, x3, x4, x5, x6⟩, ha, hh, hn⟩
      · subst ha; subst hh; subst hn
        refine Or.inl ⟨ch_new (by decide) rfl, ?_⟩
        refine ⟨c, j, C', t', sl + s, ⟨er.trans x1, x2, x3, x4, x5, by omega⟩, rfl, ?_, by omega⟩
        with_reducible rfl
  · skip
    by_cases hk31 : kd B n i = 31
    · have er : rItm (tkP B n) T b i nl = rKey (tkP B n) T b 1 i nl := (if_neg hk3).trans (if_pos hk31)
      rw [hk31] at hto
      have h1 : kd B n i ≠ 1 := by rw [hk31]; decide
      have h2 : kd B n i ≠ 2 := by rw [hk31]; decide
      refine w_m0 (pc1 := 3) (st1 := .ref 61 :: _) rfl rfl rfl rfl ?_
      refine w_p (pc1 := 4) rfl rfl ?_
      refine w_m0 (pc1 := 7) rfl rfl (h_gC rfl rfl rfl rfl) rfl ?_
      refine w_m0 (pc1 := 10) (st1 := .ref 31 :: _) rfl rfl (h_gRs (j := 6) rfl rfl rfl rfl rfl (hto)) rfl ?_
      refine w_c (pc1 := 13) rfl rfl rfl (fun fr lo h1 h2 => n_or rfl (by decide) (by decide) h1 h2) rfl ?_
      refine w_m0 (pc1 := 14) rfl rfl (h_sw (by decide)) rfl ?_
      refine w_p (pc1 := 63) rfl rfl ?_
      refine w_p (pc1 := 64) rfl rfl ?_
      refine w_p (pc1 := 65) (st1 := .int 1 :: _) rfl rfl ?_
      refine w_ji (pc1 := 68) (vs := [.ref 120, .int 1]) (rest := []) (m_52 (d := d + 50) (sl := 0) (kd2 := 1) S h1 h2 hl K hb hb6) rfl rfl rfl (fun _ _ => rfl) rfl (by exact cl_v my_52 rfl rfl rfl (Nat.le_of_ble_eq_true rfl) rfl (MH_obj rfl rfl) rfl (by decide) rfl rfl) (by rfl) (Nat.le_of_ble_eq_true rfl) (Nat.le_of_ble_eq_true rfl) rfl (fun v h1 d1 hq => ?_) (fun a h1 d1 hq => ?_)
      · obtain ⟨T2, i2, nl2, C2, t2, ⟨p1, hv, p3⟩, hh, hq⟩ := hq
        subst hv; subst hh
        refine w_p (pc1 := 128) rfl rfl ?_
        refine w_r rfl rfl rfl (fun _ _ => rfl) rfl ?_
        refine ⟨T2, i2, nl2, C2, t2, ⟨er.trans p1, rfl, p3⟩, ?_, by omega⟩
        with_reducible rfl
      · rcases hq with ⟨c, j, C', t', s, ⟨x1, x2, x3, x4, x5, x6⟩, ha, hh, hn⟩
        · subst ha; subst hh; subst hn
          refine Or.inl ⟨ch_new (by decide) rfl, ?_⟩
          refine ⟨c, j, C', t', sl + s, ⟨er.trans x1, x2, x3, x4, x5, by omega⟩, rfl, ?_, by omega⟩
          with_reducible rfl
    · skip
      by_cases hk40 : kd B n i = 40
      · have er : rItm (tkP B n) T b i nl = rKey (tkP B n) T b 2 i nl := (if_neg hk3).trans ((if_neg hk31).trans (if_pos hk40))
        rw [hk40] at hto
        have h1 : kd B n i ≠ 1 := by rw [hk40]; decide
        have h2 : kd B n i ≠ 2 := by rw [hk40]; decide
        refine w_m0 (pc1 := 3) (st1 := .ref 61 :: _) rfl rfl rfl rfl ?_
        refine w_p (pc1 := 4) rfl rfl ?_
        refine w_m0 (pc1 := 7) rfl rfl (h_gC rfl rfl rfl rfl) rfl ?_
        refine w_m0 (pc1 := 10) (st1 := .ref 40 :: _) rfl rfl (h_gRs (j := 6) rfl rfl rfl rfl rfl (hto)) rfl ?_
        refine w_c (pc1 := 13) rfl rfl rfl (fun fr lo h1 h2 => n_or rfl (by decide) (by decide) h1 h2) rfl ?_
        refine w_m0 (pc1 := 14) rfl rfl (h_sw (by decide)) rfl ?_
        refine w_p (pc1 := 71) rfl rfl ?_
        refine w_p (pc1 := 72) rfl rfl ?_
        refine w_p (pc1 := 73) (st1 := .int 2 :: _) rfl rfl ?_
        refine w_ji (pc1 := 76) (vs := [.ref 120, .int 2]) (rest := []) (m_52 (d := d + 50) (sl := 0) (kd2 := 2) S h1 h2 hl K hb hb6) rfl rfl rfl (fun _ _ => rfl) rfl (by exact cl_v my_52 rfl rfl rfl (Nat.le_of_ble_eq_true rfl) rfl (MH_obj rfl rfl) rfl (by decide) rfl rfl) (by rfl) (Nat.le_of_ble_eq_true rfl) (Nat.le_of_ble_eq_true rfl) rfl (fun v h1 d1 hq => ?_) (fun a h1 d1 hq => ?_)
        · obtain ⟨T2, i2, nl2, C2, t2, ⟨p1, hv, p3⟩, hh, hq⟩ := hq
          subst hv; subst hh
          refine w_p (pc1 := 128) rfl rfl ?_
          refine w_r rfl rfl rfl (fun _ _ => rfl) rfl ?_
          refine ⟨T2, i2, nl2, C2, t2, ⟨er.trans p1, rfl, p3⟩, ?_, by omega⟩
          with_reducible rfl
        · rcases hq with ⟨c, j, C', t', s, ⟨x1, x2, x3, x4, x5, x6⟩, ha, hh, hn⟩
          · subst ha; subst hh; subst hn
            refine Or.inl ⟨ch_new (by decide) rfl, ?_⟩
            refine ⟨c, j, C', t', sl + s, ⟨er.trans x1, x2, x3, x4, x5, by omega⟩, rfl, ?_, by omega⟩
            with_reducible rfl
      · skip
        by_cases hk12 : kd B n i = 12
        · have er : rItm (tkP B n) T b i nl = rChk (tkP B n) T b i nl := (if_neg hk3).trans ((if_neg hk31).trans ((if_neg hk40).trans (if_pos hk12)))
          rw [hk12] at hto
          have h1 : kd B n i ≠ 1 := by rw [hk12]; decide
          have h2 : kd B n i ≠ 2 := by rw [hk12]; decide
          rw [er] at hz
          refine w_m0 (pc1 := 3) (st1 := .ref 61 :: _) rfl rfl rfl rfl ?_
          refine w_p (pc1 := 4) rfl rfl ?_
          refine w_m0 (pc1 := 7) rfl rfl (h_gC rfl rfl rfl rfl) rfl ?_
          refine w_m0 (pc1 := 10) (st1 := .ref 12 :: _) rfl rfl (h_gRs (j := 6) rfl rfl rfl rfl rfl (hto)) rfl ?_
          refine w_c (pc1 := 13) rfl rfl rfl (fun fr lo h1 h2 => n_or rfl (by decide) (by decide) h1 h2) rfl ?_
          refine w_m0 (pc1 := 14) rfl rfl (h_sw (by decide)) rfl ?_
          refine w_p (pc1 := 79) rfl rfl ?_
          rw [er]
          exact d39c S h1 h2 hl K hb hb6 R hz
        · skip
          by_cases hk33 : kd B n i = 33
          · have er : rItm (tkP B n) T b i nl = rRef (tkP B n) T b i nl := (if_neg hk3).trans ((if_neg hk31).trans ((if_neg hk40).trans ((if_neg hk12).trans (if_pos hk33))))
            rw [hk33] at hto
            have h1 : kd B n i ≠ 1 := by rw [hk33]; decide
            have h2 : kd B n i ≠ 2 := by rw [hk33]; decide
            refine w_m0 (pc1 := 3) (st1 := .ref 61 :: _) rfl rfl rfl rfl ?_
            refine w_p (pc1 := 4) rfl rfl ?_
            refine w_m0 (pc1 := 7) rfl rfl (h_gC rfl rfl rfl rfl) rfl ?_
            refine w_m0 (pc1 := 10) (st1 := .ref 33 :: _) rfl rfl (h_gRs (j := 6) rfl rfl rfl rfl rfl (hto)) rfl ?_
            refine w_c (pc1 := 13) rfl rfl rfl (fun fr lo h1 h2 => n_or rfl (by decide) (by decide) h1 h2) rfl ?_
            refine w_m0 (pc1 := 14) rfl rfl (h_sw (by decide)) rfl ?_
            refine w_p (pc1 := 113) rfl rfl ?_
            refine w_p (pc1 := 114) rfl rfl ?_
            refine w_ji (pc1 := 117) (vs := [.ref 120]) (rest := []) (m_73 (d := d + 50) (sl := 0) S h1 h2 hl K hb hb6 ok) rfl rfl rfl (fun _ _ => rfl) rfl (by exact cl_v my_73 rfl rfl rfl (Nat.le_of_ble_eq_true rfl) rfl (MH_obj rfl rfl) rfl (by decide) rfl rfl) (by rfl) (Nat.le_of_ble_eq_true rfl) (Nat.le_of_ble_eq_true rfl) rfl (fun v h1 d1 hq => ?_) (fun a h1 d1 hq => ?_)
            · obtain ⟨T2, i2, nl2, C2, t2, ⟨p1, hv, p3⟩, hh, hq⟩ := hq
              subst hv; subst hh
              refine w_p (pc1 := 128) rfl rfl ?_
              refine w_r rfl rfl rfl (fun _ _ => rfl) rfl ?_
              refine ⟨T2, i2, nl2, C2, t2, ⟨er.trans p1, rfl, p3⟩, ?_, by omega⟩
              with_reducible rfl
            · rcases hq with ⟨c, j, C', t', s, ⟨x1, x2, x3, x4, x5, x6⟩, ha, hh, hn⟩
              · subst ha; subst hh; subst hn
                refine Or.inl ⟨ch_new (by decide) rfl, ?_⟩
                refine ⟨c, j, C', t', sl + s, ⟨er.trans x1, x2, x3, x4, x5, by omega⟩, rfl, ?_, by omega⟩
                with_reducible rfl
          · skip
            have er : rItm (tkP B n) T b i nl = .inl (2, i) := (if_neg hk3).trans ((if_neg hk31).trans ((if_neg hk40).trans ((if_neg hk12).trans (if_neg hk33))))
            by_cases hk24 : kd B n i = 24
            · rw [hk24] at hto
              refine w_m0 (pc1 := 3) (st1 := .ref 61 :: _) rfl rfl rfl rfl ?_
              refine w_p (pc1 := 4) rfl rfl ?_
              refine w_m0 (pc1 := 7) rfl rfl (h_gC rfl rfl rfl rfl) rfl ?_
              refine w_m0 (pc1 := 10) (st1 := .ref 24 :: _) rfl rfl (h_gRs (j := 6) rfl rfl rfl rfl rfl (hto)) rfl ?_
              refine w_c (pc1 := 13) rfl rfl rfl (fun fr lo h1 h2 => n_or rfl (by decide) (by decide) h1 h2) rfl ?_
              refine w_m0 (pc1 := 14) rfl rfl (h_sw (by decide)) rfl ?_
              refine w_p (pc1 := 120) rfl rfl ?_
              refine w_p (pc1 := 121) rfl rfl ?_
              refine w_m0 (pc1 := 124) rfl rfl (h_gC rfl rfl rfl rfl) rfl ?_
              refine w_p (pc1 := 125) (st1 := .int 2 :: _) rfl rfl ?_
              refine w_ji (pc1 := 128) (vs := [.ref 101, .int 2]) (rest := []) (m_31 (d := d + 53) (sl := 0) (c := 2) S) rfl rfl rfl (fun _ _ => rfl) rfl (by exact cl_v my_31 rfl rfl rfl (Nat.le_of_ble_eq_true rfl) rfl (MH_obj rfl rfl) rfl (by decide) rfl rfl) (by rfl) (Nat.le_of_ble_eq_true rfl) (Nat.le_of_ble_eq_true rfl) rfl (fun v h1 d1 hq => ?_) (fun a h1 d1 hq => ?_)
              · exact hq.elim
              · rcases hq with ⟨ha, hh, hn⟩
                · subst ha; subst hh; subst hn
                  refine Or.inl ⟨ch_new (by decide) rfl, ?_⟩
                  refine ⟨2, i, _, t, sl + 0, ⟨er, flt_rf.1, STB_rf, by omega, by omega, by omega⟩, rfl, ?_, by omega⟩
                  with_reducible rfl
            · skip
              by_cases hk28 : kd B n i = 28
              · rw [hk28] at hto
                refine w_m0 (pc1 := 3) (st1 := .ref 61 :: _) rfl rfl rfl rfl ?_
                refine w_p (pc1 := 4) rfl rfl ?_
                refine w_m0 (pc1 := 7) rfl rfl (h_gC rfl rfl rfl rfl) rfl ?_
                refine w_m0 (pc1 := 10) (st1 := .ref 28 :: _) rfl rfl (h_gRs (j := 6) rfl rfl rfl rfl rfl (hto)) rfl ?_
                refine w_c (pc1 := 13) rfl rfl rfl (fun fr lo h1 h2 => n_or rfl (by decide) (by decide) h1 h2) rfl ?_
                refine w_m0 (pc1 := 14) rfl rfl (h_sw (by decide)) rfl ?_
                refine w_p (pc1 := 120) rfl rfl ?_
                refine w_p (pc1 := 121) rfl rfl ?_
                refine w_m0 (pc1 := 124) rfl rfl (h_gC rfl rfl rfl rfl) rfl ?_
                refine w_p (pc1 := 125) (st1 := .int 2 :: _) rfl rfl ?_
                refine w_ji (pc1 := 128) (vs := [.ref 101, .int 2]) (rest := []) (m_31 (d := d + 53) (sl := 0) (c := 2) S) rfl rfl rfl (fun _ _ => rfl) rfl (by exact cl_v my_31 rfl rfl rfl (Nat.le_of_ble_eq_true rfl) rfl (MH_obj rfl rfl) rfl (by decide) rfl rfl) (by rfl) (Nat.le_of_ble_eq_true rfl) (Nat.le_of_ble_eq_true rfl) rfl (fun v h1 d1 hq => ?_) (fun a h1 d1 hq => ?_)
                · exact hq.elim
                · rcases hq with ⟨ha, hh, hn⟩
                  · subst ha; subst hh; subst hn
                    refine Or.inl ⟨ch_new (by decide) rfl, ?_⟩
                    refine ⟨2, i, _, t, sl + 0, ⟨er, flt_rf.1, STB_rf, by omega, by omega, by omega⟩, rfl, ?_, by omega⟩
                    with_reducible rfl
              · skip
                have hd := itm_0 ⟨kd B n i, by have := (kd_ok (B := B) (n := n) i).2; omega⟩ (kd_ok i).1 hk3 hk31 hk40 hk12 hk33 hk24 hk28
                refine w_m0 (pc1 := 3) (st1 := .ref 61 :: _) rfl rfl rfl rfl ?_
                refine w_p (pc1 := 4) rfl rfl ?_
                refine w_m0 (pc1 := 7) rfl rfl (h_gC rfl rfl rfl rfl) rfl ?_
                refine w_m0 (pc1 := 10) (st1 := .ref (kd B n i) :: _) rfl rfl (h_gRs (j := 6) rfl rfl rfl rfl rfl (hto)) rfl ?_
                refine w_c (pc1 := 13) rfl rfl rfl (fun fr lo h1 h2 => n_or rfl (kd_ok _) (by decide) h1 h2) rfl ?_
                refine w_m0 (pc1 := 14) rfl rfl (h_sw (kd_ok _)) rfl ?_
                refine w_sd (a := 120) rfl rfl (by exact hd) ?_
                refine w_p (pc1 := 121) rfl rfl ?_
                refine w_m0 (pc1 := 124) rfl rfl (h_gC rfl rfl rfl rfl) rfl ?_
                refine w_p (pc1 := 125) (st1 := .int 2 :: _) rfl rfl ?_
                refine w_ji (pc1 := 128) (vs := [.ref 101, .int 2]) (rest := []) (m_31 (d := d + 53) (sl := 0) (c := 2) S) rfl rfl rfl (fun _ _ => rfl) rfl (by exact cl_v my_31 rfl rfl rfl (Nat.le_of_ble_eq_true rfl) rfl (MH_obj rfl rfl) rfl (by decide) rfl rfl) (by rfl) (Nat.le_of_ble_eq_true rfl) (Nat.le_of_ble_eq_true rfl) rfl (fun v h1 d1 hq => ?_) (fun a h1 d1 hq => ?_)
                · exact hq.elim
                · rcases hq with ⟨ha, hh, hn⟩
                  · subst ha; subst hh; subst hn
                    refine Or.inl ⟨ch_new (by decide) rfl, ?_⟩
                    refine ⟨2, i, _, t, sl + 0, ⟨er, flt_rf.1, STB_rf, by omega, by omega, by omega⟩, rfl, ?_, by omega⟩
                    with_reducible rfl
/-! what is kept of the rules -/
set_option maxRecDepth 100000 in
theorem rNam_ok {K : tv2} {sc : sc_T} (h6 : sc.2.1 b ≤ 6) : ∀ (f : Nat) (acc : List Nat) (i : Nat) (cs' : List Nat) (i' : Nat), rNam K sc b f acc i = .inr (cs', i') → (∀ x, x ∈ acc → x < sc.2.1 b) → acc.Nodup → (∀ x, x ∈ acc ++ cs' → x < sc.2.1 b) ∧ (acc ++ cs').Nodup
  | 0, acc, i, cs', i', h, _, _ => by cases h
  | f + 1, acc, i, cs', i', h, ha, hn => by
    rw [rNam] at h
    obtain ⟨c, hc, h⟩ := pb_inr h
    have hcc : c.1 < sc.2.1 b ∧ acc.contains c.1 = false := by
      unfold rCol at hc
      split at hc
      · split at hc
        · cases hc
        · rename_i hf
          obtain ⟨c', e1, e2, e3⟩ := clF_b h6 hf
          rw [e3] at hc
          split at hc
          · cases hc
          · rename_i hcn
            cases hc
            exact ⟨e2, Bool.eq_false_iff.mpr hcn⟩
      · cases hc
    have ha' : ∀ x, x ∈ acc ++ [c.1] → x < sc.2.1 b := fun x hx => by
      rcases List.mem_append.mp hx with h | h
      · exact ha x h
      · rcases List.mem_cons.mp h with rfl | h
        · exact hcc.1
        · cases h
    have hn' := nd_s hn hcc.2
    split at h
    · obtain ⟨y, hy, h⟩ := pb_inr h
      cases h
      have := rNam_ok h6 f (acc ++ [c.1]) (c.2 + 1) y.1 y.2 hy ha' hn'
      rw [List.append_assoc] at this
      exact this
    · cases h
      exact ⟨ha', hn'⟩
set_option maxRecDepth 100000 in
theorem rNam_6 {K : tv2} {sc : sc_T} (h6 : sc.2.1 b ≤ 6) {i i' : Nat} {cs' : List Nat} (h : rNam K sc b 7 [] i = .inr (cs', i')) : cs'.length ≤ 6 ∧ ∀ x, x ∈ cs' → x < 6 := by
  have := rNam_ok h6 7 [] i cs' i' h (fun x hx => by cases hx) List.nodup_nil
  rw [List.nil_append] at this
  have := php _ cs' this.1 this.2
  exact ⟨by omega, fun x hx => by have := (‹(∀ x, x ∈ cs' → x < sc.2.1 b) ∧ cs'.Nodup›).1 x hx; omega⟩
end TIT
