
/-! ONE SIDE: a statement is read, 4: tables, words alone, what is none -/
section RD4
variable {L : Nat} {xs : Nat → Int32} {B : Nat → Nat} {n m : Nat} {C C' C0 C1 : co_T} {t t0 t1 : ab_H} {d sl sl0 sl1 i i0 i1 j b e ti k k0 kc ks w c : Nat} {sc : sc_T} {row : Option Nat} {tg : Option (Nat × Nat)} {nl : Option Nat} {kd0 tb0 : Int32} {P : Option Value → ab_H → Nat → Prop} {X : Nat → ab_H → Nat → Prop} {cs : List Nat} {ss : List (Option (List op_T))} {E : fe_T} {tr : Nat → Option tr_T} {T : tb_S}
set_option maxRecDepth 100000 in
theorem d12_nxt10 (S : tkS B n m C 0) (hk : kd B n 0 = 10) (H : ctV B n m C t sl (.inr ((), 1, nl)) (fun _ _ _ => True) P X) (hv0 : C.2.2 20 3 = some (kd B n 0)) : Wd L xs (d + 63) y_12 (60, [(0, .ref 120)], [], MH C t, sl) P X := by
  rw [hk] at hv0
  have h1 : kd B n 0 ≠ 1 := by rw [hk]; decide
  have h2 : kd B n 0 ≠ 2 := by rw [hk]; decide
  have f1 := nxT_fr (B := B) (n := n) (C := C) (i := 0)
  refine w_m0 (pc1 := 63) (st1 := .ref 61 :: _) rfl rfl rfl rfl ?_
  refine w_p (pc1 := 64) rfl rfl ?_
  refine w_m0 (pc1 := 67) (st1 := .ref 10 :: _) rfl rfl (h_gRs (j := 3) rfl rfl rfl rfl rfl (hv0)) rfl ?_
  refine w_c (pc1 := 70) rfl rfl rfl (fun fr lo h1 h2 => n_or rfl (by decide) (by decide) h1 h2) rfl ?_
  refine w_m0 (pc1 := 71) rfl rfl (h_sw (by decide)) rfl ?_
  refine w_p (pc1 := 164) rfl rfl ?_
  refine w_p (pc1 := 165) rfl rfl ?_
  refine w_m0 (pc1 := 168) rfl rfl (h_gC rfl rfl rfl rfl) rfl ?_
  refine w_je (pc1 := 171) (vs := [.ref 101]) (rest := []) (st1 := []) (m_21s (d := d + 62) (sl := 0) S h1 h2) rfl rfl rfl (fun _ _ => rfl) rfl (by exact cl_v my_21 rfl rfl rfl (Nat.le_of_ble_eq_true rfl) rfl (MH_obj rfl rfl) rfl (by decide) rfl rfl) (by rfl) (Nat.le_of_ble_eq_true rfl) (Nat.le_of_ble_eq_true rfl) rfl (by rfl) ?_
  refine w_p (pc1 := 203) rfl rfl ?_
  exact ctV_e H rfl trivial (nxT_S S h1 h2) ⟨frD_N f1, f1.2.2 20 3 (by omega)⟩ tlE_r (by omega) (by omega)
set_option maxRecDepth 100000 in
theorem d12_nxt13 (S : tkS B n m C 0) (hk : kd B n 0 = 13) (H : ctV B n m C t sl (.inr ((), 1, nl)) (fun _ _ _ => True) P X) (hv0 : C.2.2 20 3 = some (kd B n 0)) : Wd L xs (d + 63) y_12 (60, [(0, .ref 120)], [], MH C t, sl) P X := by
  rw [hk] at hv0
  have h1 : kd B n 0 ≠ 1 := by rw [hk]; decide
  have h2 : kd B n 0 ≠ 2 := by rw [hk]; decide
  have f1 := nxT_fr (B := B) (n := n) (C := C) (i := 0)
  refine w_m0 (pc1 := 63) (st1 := .ref 61 :: _) rfl rfl rfl rfl ?_
  refine w_p (pc1 := 64) rfl rfl ?_
  refine w_m0 (pc1 := 67) (st1 := .ref 13 :: _) rfl rfl (h_gRs (j := 3) rfl rfl rfl rfl rfl (hv0)) rfl ?_
  refine w_c (pc1 := 70) rfl rfl rfl (fun fr lo h1 h2 => n_or rfl (by decide) (by decide) h1 h2) rfl ?_
  refine w_m0 (pc1 := 71) rfl rfl (h_sw (by decide)) rfl ?_
  refine w_p (pc1 := 164) rfl rfl ?_
  refine w_p (pc1 := 165) rfl rfl ?_
  refine w_m0 (pc1 := 168) rfl rfl (h_gC rfl rfl rfl rfl) rfl ?_
  refine w_je (pc1 := 171) (vs := [.ref 101]) (rest := []) (st1 := []) (m_21s (d := d + 62) (sl := 0) S h1 h2) rfl rfl rfl (fun _ _ => rfl) rfl (by exact cl_v my_21 rfl rfl rfl (Nat.le_of_ble_eq_true rfl) rfl (MH_obj rfl rfl) rfl (by decide) rfl rfl) (by rfl) (Nat.le_of_ble_eq_true rfl) (Nat.le_of_ble_eq_true rfl) rfl (by rfl) ?_
  refine w_p (pc1 := 203) rfl rfl ?_
  exact ctV_e H rfl trivial (nxT_S S h1 h2) ⟨frD_N f1, f1.2.2 20 3 (by omega)⟩ tlE_r (by omega) (by omega)
set_option maxRecDepth 100000 in
theorem vrb_0 : ∀ k : Fin 60, 1 ≤ k.1 → k.1 ≠ 8 → k.1 ≠ 10 → k.1 ≠ 13 → k.1 ≠ 15 → k.1 ≠ 17 → k.1 ≠ 18 → k.1 ≠ 20 → k.1 ≠ 22 → k.1 ≠ 26 → k.1 ≠ 37 → k.1 ≠ 39 → k.1 ≠ 41 → (tk_s.getD (k.1 - 1) 0).toInt < 1 ∨ 12 < (tk_s.getD (k.1 - 1) 0).toInt := by decide +kernel
set_option maxRecDepth 100000 in
theorem d12_def (S : tkS B n m C 0) (hk : (tk_s.getD (kd B n 0 - 1) 0).toInt < 1 ∨ 12 < (tk_s.getD (kd B n 0 - 1) 0).toInt) (hv0 : C.2.2 20 3 = some (kd B n 0)) (HX : ∀ a h q, Xk 12 (rfC B n C 0 2) t sl a h q → X a h q) : Wd L xs (d + 63) y_12 (60, [(0, .ref 120)], [], MH C t, sl) P X := by
  refine w_m0 (pc1 := 63) (st1 := .ref 61 :: _) rfl rfl rfl rfl ?_
  refine w_p (pc1 := 64) rfl rfl ?_
  refine w_m0 (pc1 := 67) (st1 := .ref (kd B n 0) :: _) rfl rfl (h_gRs (j := 3) rfl rfl rfl rfl rfl (hv0)) rfl ?_
  refine w_c (pc1 := 70) rfl rfl rfl (fun fr lo h1 h2 => n_or rfl (kd_ok _) (by decide) h1 h2) rfl ?_
  refine w_m0 (pc1 := 71) rfl rfl (h_sw (kd_ok _)) rfl ?_
  refine w_sd (a := 195) rfl rfl (by exact hk) ?_
  refine w_p (pc1 := 196) rfl rfl ?_
  refine w_m0 (pc1 := 199) rfl rfl (h_gC rfl rfl rfl rfl) rfl ?_
  refine w_p (pc1 := 200) (st1 := .int 2 :: _) rfl rfl ?_
  refine w_ji (pc1 := 203) (vs := [.ref 101, .int 2]) (rest := []) (m_31 (d := d + 56) (sl := 0) (c := 2) S) rfl rfl rfl (fun _ _ => rfl) rfl (by exact cl_v my_31 rfl rfl rfl (Nat.le_of_ble_eq_true rfl) rfl (MH_obj rfl rfl) rfl (by decide) rfl rfl) (by rfl) (Nat.le_of_ble_eq_true rfl) (Nat.le_of_ble_eq_true rfl) rfl (fun v h1 d1 hq => ?_) (fun a h1 d1 hq => ?_)
  · exact hq.elim
  · rcases hq with ⟨ha, hh, hn⟩
    · subst ha; subst hh; subst hn
      refine Or.inl ⟨ch_new (by decide) rfl, ?_⟩
      refine HX _ _ _ ⟨rfl, ?_, by omega⟩
      with_reducible rfl
set_option maxRecDepth 100000 in
theorem d12_tab (S : tkS B n m C 0) (hk : kd B n 0 = 37) (hl : lfK (C.1 21 6) nl) (R : RX C T.1 none none false) (K : BK C t T) (okk : ∀ i u, T.2.2 i = some u → okRu u) (hz : nzp (rTbl (tkP B n) T 0 nl)) (hv0 : C.2.2 20 3 = some (kd B n 0)) (HN : ∀ b nm C2 T' i' nl' C' t' sl', rTbl (tkP B n) T 0 nl = .inr (T', i', nl') → (tbN T.1.1 = nI b ∧ b < 6 ∧ (frN C C2 ∧ nm ≠ 0)) → TIv B n m (nwC C2 b nm) t 0 sl b (nwT T b nm) T' i' nl' C' t' sl' → kd B n i' = 2 → P none (MH C' t') sl') (HX : ∀ c j C' t' sl' a h q, (rTbl (tkP B n) T 0 nl = .inl (c, j) ∨ (∃ a nl', rTbl (tkP B n) T 0 nl = .inr (a, j, nl') ∧ kd B n j ≠ 2 ∧ c = 2)) → flt B n C' c j → ((frD C C' ∧ C'.1 20 10 = C.1 20 10 ∧ t' = t) ∨ (∃ b nm C2, tbN T.1.1 = nI b ∧ b < 6 ∧ (frN C C2 ∧ nm ≠ 0) ∧ STB b (nwC C2 b nm) t C' t')) → t'.length ≤ t.length + 4 * j → sl' ≤ sl + 25 * j → Xk 12 C' t' sl' a h q → X a h q) : Wd L xs (d + 63) y_12 (60, [(0, .ref 120)], [], MH C t, sl) P X := by
  rw [hk] at hv0
  have h1 : kd B n 0 ≠ 1 := by rw [hk]; decide
  have h2 : kd B n 0 ≠ 2 := by rw [hk]; decide
  refine w_m0 (pc1 := 63) (st1 := .ref 61 :: _) rfl rfl rfl rfl ?_
  refine w_p (pc1 := 64) rfl rfl ?_
  refine w_m0 (pc1 := 67) (st1 := .ref 37 :: _) rfl rfl (h_gRs (j := 3) rfl rfl rfl rfl rfl (hv0)) rfl ?_
  refine w_c (pc1 := 70) rfl rfl rfl (fun fr lo h1 h2 => n_or rfl (by decide) (by decide) h1 h2) rfl ?_
  refine w_m0 (pc1 := 71) rfl rfl (h_sw (by decide)) rfl ?_
  refine w_p (pc1 := 132) rfl rfl ?_
  refine w_p (pc1 := 133) rfl rfl ?_
  refine w_ji (pc1 := 136) (vs := [.ref 120]) (rest := []) (m_29 (d := d + 1) (sl := 0) S h1 h2 hl R K okk (fun j h => nam_nz h) hz) rfl rfl rfl (fun _ _ => rfl) rfl (by exact cl_v my_29 rfl rfl rfl (Nat.le_of_ble_eq_true rfl) rfl (MH_obj rfl rfl) rfl (by decide) rfl rfl) (by rfl) (Nat.le_of_ble_eq_true rfl) (Nat.le_of_ble_eq_true rfl) rfl (fun v h1 d1 hq => ?_) (fun a h1 d1 hq => ?_)
  · obtain ⟨b, nm, C2, T', i', nl', C', t', ⟨p1, hv, p2, ⟨p3, p4⟩, p5, p6, ⟨p7, p8, p9⟩, p10⟩, hh⟩ := hq
    subst hv; subst hh
    refine w_p (pc1 := 203) rfl rfl ?_
    refine d12e p3 (fun h => HN b nm C2 T' i' nl' C' t' _ p1 p2 ⟨⟨p3, p4⟩, p5, p6, ⟨p7, p8, by omega⟩, p10⟩ h) (fun hne a2 h q x => HX 2 i' _ t' _ a2 h q (Or.inr ⟨T', nl', p1, hne, rfl⟩) flt_rf.1 (Or.inr ⟨b, nm, C2, p2.1, p2.2.1, p2.2.2, STB_t p6 STB_rf⟩) (by omega) (by omega) x)
  · rcases hq with ⟨c, j, C', t', s, ⟨x1, x2, x3, x4, x5, x6⟩, ha, hh, hn⟩
    · subst ha; subst hh; subst hn
      refine Or.inl ⟨ch_new (by decide) rfl, ?_⟩
      refine HX c j C' t' (sl + s) _ _ _ (Or.inl x1) x2 x3 (by omega) (by omega) ⟨rfl, ?_, by omega⟩
      with_reducible rfl
end RD4
