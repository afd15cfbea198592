
/-! ONE SIDE: a statement is read, 3: short statements and changes through the switch -/
section RD3
variable {L : Nat} {xs : Nat → Int32} {B : Nat → Nat} {n m : Nat} {C C' C0 C1 : co_T} {t t0 t1 : ab_H} {d sl sl0 sl1 i i0 i1 j b e ti k k0 kc ks w c : Nat} {sc : sc_T} {row : Option Nat} {tg : Option (Nat × Nat)} {nl : Option Nat} {kd0 tb0 : Int32} {P : Option Value → ab_H → Nat → Prop} {X : Nat → ab_H → Nat → Prop} {cs : List Nat} {ss : List (Option (List op_T))} {E : fe_T} {tr : Nat → Option tr_T} {T : tb_S} {mk : Nat × (Nat → Int64)}
/-! how the run goes on behind a statement's own reading -/
def ctV {α : Type} (B : Nat → Nat) (n m : Nat) (C : co_T) (t : ab_H) (sl : Nat) (r : pz_T (α × Nat × Option Nat)) (Q : α → co_T → ab_H → Prop) (P : Option Value → ab_H → Nat → Prop) (X : Nat → ab_H → Nat → Prop) : Prop := (∀ a i' nl' C' t' sl', r = .inr (a, i', nl') → Q a C' t' → tkS B n m C' i' → (frD C C' ∧ C'.2.2 20 3 = C.2.2 20 3) → tlE t t' → t'.length ≤ t.length + 4 * i' → sl' ≤ sl + 25 * i' → kd B n i' = 2 → P none (MH C' t') sl') ∧ (∀ c j C' t' sl' a h q, (r = .inl (c, j) ∨ (∃ a nl', r = .inr (a, j, nl') ∧ kd B n j ≠ 2 ∧ c = 2)) → flt B n C' c j → frD C C' → tlE t t' → t'.length ≤ t.length + 4 * j → sl' ≤ sl + 25 * j → Xk 12 C' t' sl' a h q → X a h q)
set_option maxRecDepth 100000 in
theorem ctV_e {α : Type} {r : pz_T (α × Nat × Option Nat)} {Q : α → co_T → ab_H → Prop} {a : α} {i' sl' : Nat} {nl' : Option Nat} {t' : ab_H} (H : ctV B n m C t sl r Q P X) (er : r = .inr (a, i', nl')) (hQ : Q a C' t') (S : tkS B n m C' i') (f : frD C C' ∧ C'.2.2 20 3 = C.2.2 20 3) (h1 : tlE t t') (h2 : t'.length ≤ t.length + 4 * i') (h3 : sl' ≤ sl + 25 * i') : Wd L xs (d + 63) y_12 (203, [(0, .ref 120)], [], MH C' t', sl') P X := d12e S (fun h => H.1 a i' nl' C' t' sl' er hQ S f h1 h2 h3 h) (fun hne a2 h q x => H.2 2 i' _ t' sl' a2 h q (Or.inr ⟨a, nl', er, hne, rfl⟩) flt_rf.1 (frD_t f.1 flt_rf.2) h1 h2 h3 x)
set_option maxRecDepth 100000 in
theorem d12_trg (R : RX C sc none none false) (hT : TGK C t tr) (hz : nzp (rTrg (tkP B n) sc tr 0 nl)) (S : tkS B n m C 0) (hk : kd B n 0 = 39) (hl : lfK (C.1 21 6) nl) (H : ctV B n m C t sl (rTrg (tkP B n) sc tr 0 nl) (QTr (trN tr)) P X) (hv0 : C.2.2 20 3 = some (kd B n 0)) : Wd L xs (d + 63) y_12 (60, [(0, .ref 120)], [], MH C t, sl) P X := by
  rw [hk] at hv0
  have h1 : kd B n 0 ≠ 1 := by rw [hk]; decide
  have h2 : kd B n 0 ≠ 2 := by rw [hk]; decide
  refine w_m0 (pc1 := 63) (st1 := .ref 61 :: _) rfl rfl rfl rfl ?_
  refine w_p (pc1 := 64) rfl rfl ?_
  refine w_m0 (pc1 := 67) (st1 := .ref 39 :: _) rfl rfl (h_gRs (j := 3) rfl rfl rfl rfl rfl (hv0)) rfl ?_
  refine w_c (pc1 := 70) rfl rfl rfl (fun fr lo h1 h2 => n_or rfl (by decide) (by decide) h1 h2) rfl ?_
  refine w_m0 (pc1 := 71) rfl rfl (h_sw (by decide)) rfl ?_
  refine w_p (pc1 := 139) rfl rfl ?_
  refine w_p (pc1 := 140) rfl rfl ?_
  refine w_ji (pc1 := 143) (vs := [.ref 120]) (rest := []) (m_78 (d := d) (sl := 0) S hk hl R hT hz) rfl rfl rfl (fun _ _ => rfl) rfl (by exact cl_v my_78 rfl rfl rfl (Nat.le_of_ble_eq_true rfl) rfl (MH_obj rfl rfl) rfl (by decide) rfl rfl) (by rfl) (Nat.le_of_ble_eq_true rfl) (Nat.le_of_ble_eq_true rfl) rfl (fun v h1 d1 hq => ?_) (fun a h1 d1 hq => ?_)
  · obtain ⟨a, i', nl', C', t', ⟨p1, hv, p3, ⟨p4, p5⟩, p6, p7, p8, p9⟩, hh, hq⟩ := hq
    subst hv; subst hh
    refine w_p (pc1 := 203) rfl rfl ?_
    exact ctV_e H p1 p3 p4 p6 p7 (by omega) (by omega)
  · rcases hq with ⟨c, j, C', t', s, ⟨x1, x2, x3, ⟨x4, x5, x6⟩, x7⟩, ha, hh, hn⟩
    · subst ha; subst hh; subst hn
      refine Or.inl ⟨ch_new (by decide) rfl, ?_⟩
      refine H.2 c j C' t' (sl + s) _ _ _ (Or.inl x1) x2 x3 x4 (by omega) (by omega) ⟨rfl, ?_, by omega⟩
      with_reducible rfl
set_option maxRecDepth 100000 in
theorem d12_drp (hS : SCK C sc) (hT : TGK C t tr) (S : tkS B n m C 0) (hk : kd B n 0 = 17) (hl : lfK (C.1 21 6) nl) (H : ctV B n m C t sl (rDrp (tkP B n) sc tr 0 nl) (QDr) P X) (hv0 : C.2.2 20 3 = some (kd B n 0)) : Wd L xs (d + 63) y_12 (60, [(0, .ref 120)], [], MH C t, sl) P X := by
  rw [hk] at hv0
  have h1 : kd B n 0 ≠ 1 := by rw [hk]; decide
  have h2 : kd B n 0 ≠ 2 := by rw [hk]; decide
  refine w_m0 (pc1 := 63) (st1 := .ref 61 :: _) rfl rfl rfl rfl ?_
  refine w_p (pc1 := 64) rfl rfl ?_
  refine w_m0 (pc1 := 67) (st1 := .ref 17 :: _) rfl rfl (h_gRs (j := 3) rfl rfl rfl rfl rfl (hv0)) rfl ?_
  refine w_c (pc1 := 70) rfl rfl rfl (fun fr lo h1 h2 => n_or rfl (by decide) (by decide) h1 h2) rfl ?_
  refine w_m0 (pc1 := 71) rfl rfl (h_sw (by decide)) rfl ?_
  refine w_p (pc1 := 146) rfl rfl ?_
  refine w_p (pc1 := 147) rfl rfl ?_
  refine w_ji (pc1 := 150) (vs := [.ref 120]) (rest := []) (m_89 (d := d + 53) (sl := 0) S h1 h2 hl hS hT) rfl rfl rfl (fun _ _ => rfl) rfl (by exact cl_v my_89 rfl rfl rfl (Nat.le_of_ble_eq_true rfl) rfl (MH_obj rfl rfl) rfl (by decide) rfl rfl) (by rfl) (Nat.le_of_ble_eq_true rfl) (Nat.le_of_ble_eq_true rfl) rfl (fun v h1 d1 hq => ?_) (fun a h1 d1 hq => ?_)
  · obtain ⟨a, i', nl', C', t', ⟨p1, hv, p3, ⟨p4, p5⟩, p6, p7, p8, p9⟩, hh, hq⟩ := hq
    subst hv; subst hh
    refine w_p (pc1 := 203) rfl rfl ?_
    exact ctV_e H p1 p3 p4 p6 p7 (by omega) (by omega)
  · rcases hq with ⟨c, j, C', t', s, ⟨x1, x2, x3, ⟨x4, x5, x6⟩, x7⟩, ha, hh, hn⟩
    · subst ha; subst hh; subst hn
      refine Or.inl ⟨ch_new (by decide) rfl, ?_⟩
      refine H.2 c j C' t' (sl + s) _ _ _ (Or.inl x1) x2 x3 x4 (by omega) (by omega) ⟨rfl, ?_, by omega⟩
      with_reducible rfl
set_option maxRecDepth 100000 in
theorem d12_bck (hM : MKK C mk) (hn : C.1 20 5 = -1) (S : tkS B n m C 0) (hk : kd B n 0 = 8) (hl : lfK (C.1 21 6) nl) (H : ctV B n m C t sl (rBck (tkP B n) mk 0 nl) (fun a C' _ => C'.1 20 5 = a) P X) (hv0 : C.2.2 20 3 = some (kd B n 0)) : Wd L xs (d + 63) y_12 (60, [(0, .ref 120)], [], MH C t, sl) P X := by
  rw [hk] at hv0
  have h1 : kd B n 0 ≠ 1 := by rw [hk]; decide
  have h2 : kd B n 0 ≠ 2 := by rw [hk]; decide
  refine w_m0 (pc1 := 63) (st1 := .ref 61 :: _) rfl rfl rfl rfl ?_
  refine w_p (pc1 := 64) rfl rfl ?_
  refine w_m0 (pc1 := 67) (st1 := .ref 8 :: _) rfl rfl (h_gRs (j := 3) rfl rfl rfl rfl rfl (hv0)) rfl ?_
  refine w_c (pc1 := 70) rfl rfl rfl (fun fr lo h1 h2 => n_or rfl (by decide) (by decide) h1 h2) rfl ?_
  refine w_m0 (pc1 := 71) rfl rfl (h_sw (by decide)) rfl ?_
  refine w_p (pc1 := 174) rfl rfl ?_
  refine w_p (pc1 := 175) rfl rfl ?_
  refine w_ji (pc1 := 178) (vs := [.ref 120]) (rest := []) (m_91 (d := d + 53) (sl := 0) S h1 h2 hl hM hn) rfl rfl rfl (fun _ _ => rfl) rfl (by exact cl_v my_91 rfl rfl rfl (Nat.le_of_ble_eq_true rfl) rfl (MH_obj rfl rfl) rfl (by decide) rfl rfl) (by rfl) (Nat.le_of_ble_eq_true rfl) (Nat.le_of_ble_eq_true rfl) rfl (fun v h1 d1 hq => ?_) (fun a h1 d1 hq => ?_)
  · obtain ⟨a, i', nl', C', t', ⟨p1, hv, p3, ⟨p4, p5⟩, p6, p7, p8, p9⟩, hh, hq⟩ := hq
    subst hv; subst hh
    refine w_p (pc1 := 203) rfl rfl ?_
    exact ctV_e H p1 p3 p4 p6 p7 (by omega) (by omega)
  · rcases hq with ⟨c, j, C', t', s, ⟨x1, x2, x3, ⟨x4, x5, x6⟩, x7⟩, ha, hh, hn⟩
    · subst ha; subst hh; subst hn
      refine Or.inl ⟨ch_new (by decide) rfl, ?_⟩
      refine H.2 c j C' t' (sl + s) _ _ _ (Or.inl x1) x2 x3 x4 (by omega) (by omega) ⟨rfl, ?_, by omega⟩
      with_reducible rfl
set_option maxRecDepth 100000 in
theorem d12_mrk (hM : MKK C mk) (S : tkS B n m C 0) (hk : kd B n 0 = 22) (hl : lfK (C.1 21 6) nl) (H : ctV B n m C t sl (rMrk (tkP B n) mk 0 nl) (fun a C' _ => C'.2.1 20 6 = a) P X) (hv0 : C.2.2 20 3 = some (kd B n 0)) : Wd L xs (d + 63) y_12 (60, [(0, .ref 120)], [], MH C t, sl) P X := by
  rw [hk] at hv0
  have h1 : kd B n 0 ≠ 1 := by rw [hk]; decide
  have h2 : kd B n 0 ≠ 2 := by rw [hk]; decide
  refine w_m0 (pc1 := 63) (st1 := .ref 61 :: _) rfl rfl rfl rfl ?_
  refine w_p (pc1 := 64) rfl rfl ?_
  refine w_m0 (pc1 := 67) (st1 := .ref 22 :: _) rfl rfl (h_gRs (j := 3) rfl rfl rfl rfl rfl (hv0)) rfl ?_
  refine w_c (pc1 := 70) rfl rfl rfl (fun fr lo h1 h2 => n_or rfl (by decide) (by decide) h1 h2) rfl ?_
  refine w_m0 (pc1 := 71) rfl rfl (h_sw (by decide)) rfl ?_
  refine w_p (pc1 := 181) rfl rfl ?_
  refine w_p (pc1 := 182) rfl rfl ?_
  refine w_ji (pc1 := 185) (vs := [.ref 120]) (rest := []) (m_93 (d := d + 53) (sl := 0) S h1 h2 hl hM) rfl rfl rfl (fun _ _ => rfl) rfl (by exact cl_v my_93 rfl rfl rfl (Nat.le_of_ble_eq_true rfl) rfl (MH_obj rfl rfl) rfl (by decide) rfl rfl) (by rfl) (Nat.le_of_ble_eq_true rfl) (Nat.le_of_ble_eq_true rfl) rfl (fun v h1 d1 hq => ?_) (fun a h1 d1 hq => ?_)
  · obtain ⟨a, i', nl', C', t', ⟨p1, hv, p3, ⟨p4, p5⟩, p6, p7, p8, p9⟩, hh, hq⟩ := hq
    subst hv; subst hh
    refine w_p (pc1 := 203) rfl rfl ?_
    exact ctV_e H p1 p3 p4 p6 p7 (by omega) (by omega)
  · rcases hq with ⟨c, j, C', t', s, ⟨x1, x2, x3, ⟨x4, x5, x6⟩, x7⟩, ha, hh, hn⟩
    · subst ha; subst hh; subst hn
      refine Or.inl ⟨ch_new (by decide) rfl, ?_⟩
      refine H.2 c j C' t' (sl + s) _ _ _ (Or.inl x1) x2 x3 x4 (by omega) (by omega) ⟨rfl, ?_, by omega⟩
      with_reducible rfl
set_option maxRecDepth 100000 in
theorem d12_whi20 {ru : Nat → Option ru_T} (hR : RLK C t ru) (hv1 : C.2.2 20 3 = some (kd B n 0)) (S : tkS B n m C 0) (hk : kd B n 0 = 20) (hl : lfK (C.1 21 6) nl) (H : ctV B n m C t sl (rWhi (tkP B n) (decide (kd B n 0 = 20)) ru 0 nl) (fun a C' _ => C'.1 20 7 = a) P X) (hv0 : C.2.2 20 3 = some (kd B n 0)) : Wd L xs (d + 63) y_12 (60, [(0, .ref 120)], [], MH C t, sl) P X := by
  rw [hk] at hv0
  have h1 : kd B n 0 ≠ 1 := by rw [hk]; decide
  have h2 : kd B n 0 ≠ 2 := by rw [hk]; decide
  refine w_m0 (pc1 := 63) (st1 := .ref 61 :: _) rfl rfl rfl rfl ?_
  refine w_p (pc1 := 64) rfl rfl ?_
  refine w_m0 (pc1 := 67) (st1 := .ref 20 :: _) rfl rfl (h_gRs (j := 3) rfl rfl rfl rfl rfl (hv0)) rfl ?_
  refine w_c (pc1 := 70) rfl rfl rfl (fun fr lo h1 h2 => n_or rfl (by decide) (by decide) h1 h2) rfl ?_
  refine w_m0 (pc1 := 71) rfl rfl (h_sw (by decide)) rfl ?_
  refine w_p (pc1 := 188) rfl rfl ?_
  refine w_p (pc1 := 189) rfl rfl ?_
  refine w_ji (pc1 := 192) (vs := [.ref 120]) (rest := []) (m_94 (d := d + 53) (sl := 0) (vb := 0) S h1 h2 hl hv1 hR) rfl rfl rfl (fun _ _ => rfl) rfl (by exact cl_v my_94 rfl rfl rfl (Nat.le_of_ble_eq_true rfl) rfl (MH_obj rfl rfl) rfl (by decide) rfl rfl) (by rfl) (Nat.le_of_ble_eq_true rfl) (Nat.le_of_ble_eq_true rfl) rfl (fun v h1 d1 hq => ?_) (fun a h1 d1 hq => ?_)
  · obtain ⟨a, i', nl', C', t', ⟨p1, hv, p3, ⟨p4, p5⟩, p6, p7, p8, p9⟩, hh, hq⟩ := hq
    subst hv; subst hh
    refine w_p (pc1 := 203) rfl rfl ?_
    exact ctV_e H p1 p3 p4 p6 p7 (by omega) (by omega)
  · rcases hq with ⟨c, j, C', t', s, ⟨x1, x2, x3, ⟨x4, x5, x6⟩, x7⟩, ha, hh, hn⟩
    · subst ha; subst hh; subst hn
      refine Or.inl ⟨ch_new (by decide) rfl, ?_⟩
      refine H.2 c j C' t' (sl + s) _ _ _ (Or.inl x1) x2 x3 x4 (by omega) (by omega) ⟨rfl, ?_, by omega⟩
      with_reducible rfl
set_option maxRecDepth 100000 in
theorem d12_whi26 {ru : Nat → Option ru_T} (hR : RLK C t ru) (hv1 : C.2.2 20 3 = some (kd B n 0)) (S : tkS B n m C 0) (hk : kd B n 0 = 26) (hl : lfK (C.1 21 6) nl) (H : ctV B n m C t sl (rWhi (tkP B n) (decide (kd B n 0 = 20)) ru 0 nl) (fun a C' _ => C'.1 20 7 = a) P X) (hv0 : C.2.2 20 3 = some (kd B n 0)) : Wd L xs (d + 63) y_12 (60, [(0, .ref 120)], [], MH C t, sl) P X := by
  rw [hk] at hv0
  have h1 : kd B n 0 ≠ 1 := by rw [hk]; decide
  have h2 : kd B n 0 ≠ 2 := by rw [hk]; decide
  refine w_m0 (pc1 := 63) (st1 := .ref 61 :: _) rfl rfl rfl rfl ?_
  refine w_p (pc1 := 64) rfl rfl ?_
  refine w_m0 (pc1 := 67) (st1 := .ref 26 :: _) rfl rfl (h_gRs (j := 3) rfl rfl rfl rfl rfl (hv0)) rfl ?_
  refine w_c (pc1 := 70) rfl rfl rfl (fun fr lo h1 h2 => n_or rfl (by decide) (by decide) h1 h2) rfl ?_
  refine w_m0 (pc1 := 71) rfl rfl (h_sw (by decide)) rfl ?_
  refine w_p (pc1 := 188) rfl rfl ?_
  refine w_p (pc1 := 189) rfl rfl ?_
  refine w_ji (pc1 := 192) (vs := [.ref 120]) (rest := []) (m_94 (d := d + 53) (sl := 0) (vb := 0) S h1 h2 hl hv1 hR) rfl rfl rfl (fun _ _ => rfl) rfl (by exact cl_v my_94 rfl rfl rfl (Nat.le_of_ble_eq_true rfl) rfl (MH_obj rfl rfl) rfl (by decide) rfl rfl) (by rfl) (Nat.le_of_ble_eq_true rfl) (Nat.le_of_ble_eq_true rfl) rfl (fun v h1 d1 hq => ?_) (fun a h1 d1 hq => ?_)
  · obtain ⟨a, i', nl', C', t', ⟨p1, hv, p3, ⟨p4, p5⟩, p6, p7, p8, p9⟩, hh, hq⟩ := hq
    subst hv; subst hh
    refine w_p (pc1 := 203) rfl rfl ?_
    exact ctV_e H p1 p3 p4 p6 p7 (by omega) (by omega)
  · rcases hq with ⟨c, j, C', t', s, ⟨x1, x2, x3, ⟨x4, x5, x6⟩, x7⟩, ha, hh, hn⟩
    · subst ha; subst hh; subst hn
      refine Or.inl ⟨ch_new (by decide) rfl, ?_⟩
      refine H.2 c j C' t' (sl + s) _ _ _ (Or.inl x1) x2 x3 x4 (by omega) (by omega) ⟨rfl, ?_, by omega⟩
      with_reducible rfl
set_option maxRecDepth 100000 in
theorem d12_act18 (R : RX C sc none none false) (hz : nzp (rChg (tkP B n) sc none 0 nl)) (S : tkS B n m C 0) (hk : kd B n 0 = 18) (hl : lfK (C.1 21 6) nl) (H : ctV B n m C t sl (rChg (tkP B n) sc none 0 nl) (fun a C' t' => ∃ k, C'.2.2 20 8 = some (241 + k) ∧ ACn t' k a) P X) (hv0 : C.2.2 20 3 = some (kd B n 0)) : Wd L xs (d + 63) y_12 (60, [(0, .ref 120)], [], MH C t, sl) P X := by
  rw [hk] at hv0
  refine w_m0 (pc1 := 63) (st1 := .ref 61 :: _) rfl rfl rfl rfl ?_
  refine w_p (pc1 := 64) rfl rfl ?_
  refine w_m0 (pc1 := 67) (st1 := .ref 18 :: _) rfl rfl (h_gRs (j := 3) rfl rfl rfl rfl rfl (hv0)) rfl ?_
  refine w_c (pc1 := 70) rfl rfl rfl (fun fr lo h1 h2 => n_or rfl (by decide) (by decide) h1 h2) rfl ?_
  refine w_m0 (pc1 := 71) rfl rfl (h_sw (by decide)) rfl ?_
  refine w_p (pc1 := 153) rfl rfl ?_
  refine w_p (pc1 := 154) rfl rfl ?_
  refine w_p (pc1 := 155) rfl rfl ?_
  refine w_ji (pc1 := 158) (vs := [.ref 120]) (rest := [.ref 120]) (m_85 (d := d + 2) (sl := 0) S hl R hz) rfl rfl rfl (fun _ _ => rfl) rfl (by exact cl_v my_85 rfl rfl rfl (Nat.le_of_ble_eq_true rfl) rfl (MH_obj rfl rfl) rfl (by decide) rfl rfl) (by rfl) (Nat.le_of_ble_eq_true rfl) (Nat.le_of_ble_eq_true rfl) rfl (fun v h1 d1 hq => ?_) (fun a h1 d1 hq => ?_)
  · obtain ⟨a, i', nl', C', t', ⟨p1, ⟨hv, p2⟩, ⟨p4, p5⟩, p6, p7, p8, p9⟩, hh, hq⟩ := hq
    subst hv; subst hh
    refine w_m0 (pc1 := 161) rfl rfl (h_pR (j := 8) (v := some _) rfl rfl rfl rfl rfl rfl rfl ⟨rfl, rfl⟩ rfl) rfl ?_
    refine w_p (pc1 := 203) rfl rfl ?_
    refine ctV_e H p1 ⟨t.length, by rw [sQ_3, if_pos ⟨rfl, rfl⟩], p2⟩ (tkS_g p4 (fun _ _ _ => rfl) (fun _ _ _ => rfl) (fun k j h => by rw [sQ_3, if_neg (by omega)])) ⟨frD_t p6.1 frD_Q, ?_⟩ p7 (by omega) (by omega)
    rw [sQ_3, if_neg (by omega)]
    exact (p6.2 3).2.2
  · rcases hq with ⟨c, j, C', t', s, ⟨x1, x2, x3, ⟨x4, x5, x6⟩, x7⟩, ha, hh, hn⟩
    · subst ha; subst hh; subst hn
      refine Or.inl ⟨ch_new (by decide) rfl, ?_⟩
      refine H.2 c j C' t' (sl + s) _ _ _ (Or.inl x1) x2 x3 x4 (by omega) (by omega) ⟨rfl, ?_, by omega⟩
      with_reducible rfl
set_option maxRecDepth 100000 in
theorem d12_act41 (R : RX C sc none none false) (hz : nzp (rChg (tkP B n) sc none 0 nl)) (S : tkS B n m C 0) (hk : kd B n 0 = 41) (hl : lfK (C.1 21 6) nl) (H : ctV B n m C t sl (rChg (tkP B n) sc none 0 nl) (fun a C' t' => ∃ k, C'.2.2 20 8 = some (241 + k) ∧ ACn t' k a) P X) (hv0 : C.2.2 20 3 = some (kd B n 0)) : Wd L xs (d + 63) y_12 (60, [(0, .ref 120)], [], MH C t, sl) P X := by
  rw [hk] at hv0
  refine w_m0 (pc1 := 63) (st1 := .ref 61 :: _) rfl rfl rfl rfl ?_
  refine w_p (pc1 := 64) rfl rfl ?_
  refine w_m0 (pc1 := 67) (st1 := .ref 41 :: _) rfl rfl (h_gRs (j := 3) rfl rfl rfl rfl rfl (hv0)) rfl ?_
  refine w_c (pc1 := 70) rfl rfl rfl (fun fr lo h1 h2 => n_or rfl (by decide) (by decide) h1 h2) rfl ?_
  refine w_m0 (pc1 := 71) rfl rfl (h_sw (by decide)) rfl ?_
  refine w_p (pc1 := 153) rfl rfl ?_
  refine w_p (pc1 := 154) rfl rfl ?_
  refine w_p (pc1 := 155) rfl rfl ?_
  refine w_ji (pc1 := 158) (vs := [.ref 120]) (rest := [.ref 120]) (m_85 (d := d + 2) (sl := 0) S hl R hz) rfl rfl rfl (fun _ _ => rfl) rfl (by exact cl_v my_85 rfl rfl rfl (Nat.le_of_ble_eq_true rfl) rfl (MH_obj rfl rfl) rfl (by decide) rfl rfl) (by rfl) (Nat.le_of_ble_eq_true rfl) (Nat.le_of_ble_eq_true rfl) rfl (fun v h1 d1 hq => ?_) (fun a h1 d1 hq => ?_)
  · obtain ⟨a, i', nl', C', t', ⟨p1, ⟨hv, p2⟩, ⟨p4, p5⟩, p6, p7, p8, p9⟩, hh, hq⟩ := hq
    subst hv; subst hh
    refine w_m0 (pc1 := 161) rfl rfl (h_pR (j := 8) (v := some _) rfl rfl rfl rfl rfl rfl rfl ⟨rfl, rfl⟩ rfl) rfl ?_
    refine w_p (pc1 := 203) rfl rfl ?_
    refine ctV_e H p1 ⟨t.length, by rw [sQ_3, if_pos ⟨rfl, rfl⟩], p2⟩ (tkS_g p4 (fun _ _ _ => rfl) (fun _ _ _ => rfl) (fun k j h => by rw [sQ_3, if_neg (by omega)])) ⟨frD_t p6.1 frD_Q, ?_⟩ p7 (by omega) (by omega)
    rw [sQ_3, if_neg (by omega)]
    exact (p6.2 3).2.2
  · rcases hq with ⟨c, j, C', t', s, ⟨x1, x2, x3, ⟨x4, x5, x6⟩, x7⟩, ha, hh, hn⟩
    · subst ha; subst hh; subst hn
      refine Or.inl ⟨ch_new (by decide) rfl, ?_⟩
      refine H.2 c j C' t' (sl + s) _ _ _ (Or.inl x1) x2 x3 x4 (by omega) (by omega) ⟨rfl, ?_, by omega⟩
      with_reducible rfl
set_option maxRecDepth 100000 in
theorem d12_act15 (R : RX C sc none none false) (hz : nzp (rChg (tkP B n) sc none 0 nl)) (S : tkS B n m C 0) (hk : kd B n 0 = 15) (hl : lfK (C.1 21 6) nl) (H : ctV B n m C t sl (rChg (tkP B n) sc none 0 nl) (fun a C' t' => ∃ k, C'.2.2 20 8 = some (241 + k) ∧ ACn t' k a) P X) (hv0 : C.2.2 20 3 = some (kd B n 0)) : Wd L xs (d + 63) y_12 (60, [(0, .ref 120)], [], MH C t, sl) P X := by
  rw [hk] at hv0
  refine w_m0 (pc1 := 63) (st1 := .ref 61 :: _) rfl rfl rfl rfl ?_
  refine w_p (pc1 := 64) rfl rfl ?_
  refine w_m0 (pc1 := 67) (st1 := .ref 15 :: _) rfl rfl (h_gRs (j := 3) rfl rfl rfl rfl rfl (hv0)) rfl ?_
  refine w_c (pc1 := 70) rfl rfl rfl (fun fr lo h1 h2 => n_or rfl (by decide) (by decide) h1 h2) rfl ?_
  refine w_m0 (pc1 := 71) rfl rfl (h_sw (by decide)) rfl ?_
  refine w_p (pc1 := 153) rfl rfl ?_
  refine w_p (pc1 := 154) rfl rfl ?_
  refine w_p (pc1 := 155) rfl rfl ?_
  refine w_ji (pc1 := 158) (vs := [.ref 120]) (rest := [.ref 120]) (m_85 (d := d + 2) (sl := 0) S hl R hz) rfl rfl rfl (fun _ _ => rfl) rfl (by exact cl_v my_85 rfl rfl rfl (Nat.le_of_ble_eq_true rfl) rfl (MH_obj rfl rfl) rfl (by decide) rfl rfl) (by rfl) (Nat.le_of_ble_eq_true rfl) (Nat.le_of_ble_eq_true rfl) rfl (fun v h1 d1 hq => ?_) (fun a h1 d1 hq => ?_)
  · obtain ⟨a, i', nl', C', t', ⟨p1, ⟨hv, p2⟩, ⟨p4, p5⟩, p6, p7, p8, p9⟩, hh, hq⟩ := hq
    subst hv; subst hh
    refine w_m0 (pc1 := 161) rfl rfl (h_pR (j := 8) (v := some _) rfl rfl rfl rfl rfl rfl rfl ⟨rfl, rfl⟩ rfl) rfl ?_
    refine w_p (pc1 := 203) rfl rfl ?_
    refine ctV_e H p1 ⟨t.length, by rw [sQ_3, if_pos ⟨rfl, rfl⟩], p2⟩ (tkS_g p4 (fun _ _ _ => rfl) (fun _ _ _ => rfl) (fun k j h => by rw [sQ_3, if_neg (by omega)])) ⟨frD_t p6.1 frD_Q, ?_⟩ p7 (by omega) (by omega)
    rw [sQ_3, if_neg (by omega)]
    exact (p6.2 3).2.2
  · rcases hq with ⟨c, j, C', t', s, ⟨x1, x2, x3, ⟨x4, x5, x6⟩, x7⟩, ha, hh, hn⟩
    · subst ha; subst hh; subst hn
      refine Or.inl ⟨ch_new (by decide) rfl, ?_⟩
      refine H.2 c j C' t' (sl + s) _ _ _ (Or.inl x1) x2 x3 x4 (by omega) (by omega) ⟨rfl, ?_, by omega⟩
      with_reducible rfl
end RD3
