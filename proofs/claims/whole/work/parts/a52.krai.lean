
/-! ONE SIDE: a trigger is read, 3 -/
section TRK3
variable {L : Nat} {xs : Nat → Int32} {B : Nat → Nat} {n m : Nat} {C C' C0 C1 : co_T} {t t0 t1 : ab_H} {d sl sl0 sl1 i i0 i1 j b e ti k k0 kc ks w c : Nat} {sc : sc_T} {row : Option Nat} {tg : Option (Nat × Nat)} {nl : Option Nat} {kd0 tb0 : Int32} {P : Option Value → ab_H → Nat → Prop} {X : Nat → ab_H → Nat → Prop} {cs : List Nat} {ss : List (Option (List op_T))} {E : fe_T} {tr : Nat → Option tr_T}
set_option maxRecDepth 100000 in
theorem tkS_g (S : tkS B n m C i) (h1 : ∀ k j, k ≤ 5 → C'.1 k j = C.1 k j) (h2 : ∀ k j, k ≤ 5 → C'.2.1 k j = C.2.1 k j) (h3 : ∀ k j, k ≤ 5 → C'.2.2 k j = C.2.2 k j) : tkS B n m C' i := by
  obtain ⟨T, s3, s4, s5, s6, s7, s8, s9⟩ := S
  refine ⟨tpK_of T (h1 1 4 (by decide)) (fun j => h1 2 j (by decide)), s3, fun j hj => ?_, s5, (h1 1 5 (by decide)).trans s6, (h3 1 6 (by decide)).trans s7, (h1 1 7 (by decide)).trans s8, (h2 1 8 (by decide)).trans s9⟩
  obtain ⟨a, b, c⟩ := s4 j hj
  exact ⟨(h3 3 j (by decide)).trans a, (h1 4 j (by decide)).trans b, (h2 5 j (by decide)).trans c⟩
set_option maxRecDepth 100000 in
theorem frD_Q {C : co_T} {j : Nat} {v : Option Nat} : frD C (sQ C 20 j v) := ⟨fun _ _ _ _ _ _ _ => rfl, fun _ _ _ _ => rfl, fun k q a b => by rw [sQ_3, if_neg (by omega)]⟩
def rRa0 (K : tv2) (i : Nat) (nl : Option Nat) : pz_T (ac_T × Nat × Option Nat) := if K.1 i = 4 then .inr ((4, none, [], [], none, (K.2 i).toInt32), i + 1, nl) else .inl (2, i)
set_option maxRecDepth 100000 in
theorem d84 (hk : k0 ≠ ks ∧ k0 ≠ kc ∧ ks ≠ kc) (S : tkS B n m C i) (hl : lfK (C.1 21 6) nl) {fc : Nat → Int32} (A : AP t k0 kc ks 4 (-1) fc (fun _ => none) 0 .null 0) : Wd L xs (d + 60) y_84 (17, [(1, .ref (241 + k0)), (0, .ref 120)], [], MH C t, sl) (PWr B n m C t i sl k0 kc ks (rRa0 (tkP B n) i nl)) (XAc B n C t i sl k0 kc ks (rRa0 (tkP B n) i nl)) := by
  obtain ⟨t1, e1, g1, p1, q1⟩ := tl_st A.1 (.inr (9, [.int 4, .int (-1), .ref (241 + kc), .ref (241 + ks), .int 0, .null, .int (vl B n i).toInt32]))
  by_cases h4 : kd B n i = 4
  · have er : rRa0 (tkP B n) i nl = .inr ((4, none, [], [], none, (vl B n i).toInt32), i + 1, nl) := if_pos h4
    refine w_p (pc1 := 18) rfl rfl ?_
    refine w_p (pc1 := 19) rfl rfl ?_
    refine w_m0 (pc1 := 22) rfl rfl (h_gC rfl rfl rfl rfl) rfl ?_
    refine w_m0 (pc1 := 25) (st1 := .long (vl B n i) :: _) rfl rfl (h_gJe (j := 8) rfl rfl rfl rfl rfl (S.2.2.2.2.2.2.2)) rfl ?_
    refine w_p (pc1 := 26) (st1 := .int ((vl B n i).toInt32) :: _) rfl rfl ?_
    refine w_m0 (pc1 := 29) rfl rfl (x_pf (k := k0) (fs' := [.int 4, .int (-1), .ref (241 + kc), .ref (241 + ks), .int 0, .null, .int ((vl B n i).toInt32)]) rfl A.1 rfl rfl ⟨rfl, rfl⟩ (Or.inl rfl) (Nat.le_of_ble_eq_true rfl) rfl) rfl ?_
    rw [e1]
    refine w_p (pc1 := 30) rfl rfl ?_
    refine w_m0 (pc1 := 33) rfl rfl (h_gC rfl rfl rfl rfl) rfl ?_
    refine w_m0 (pc1 := 36) (st1 := .ref 4 :: _) rfl rfl rfl rfl ?_
    refine w_je (pc1 := 39) (vs := [.ref 101, .ref 4]) (rest := []) (st1 := []) (m_38y (d := d + 58) (sl := 0) S (by decide) h4 (by decide) (by decide)) rfl rfl rfl (fun _ _ => rfl) rfl (by exact cl_v my_38 rfl rfl rfl (Nat.le_of_ble_eq_true rfl) rfl (MH_obj rfl rfl) rfl (by decide) rfl rfl) (by rfl) (Nat.le_of_ble_eq_true rfl) (Nat.le_of_ble_eq_true rfl) rfl (by rfl) ?_
    refine w_p (pc1 := 40) rfl rfl ?_
    refine w_r rfl rfl rfl (fun _ _ => rfl) rfl ?_
    refine ⟨(4, none, [], [], none, (vl B n i).toInt32), i + 1, nl, _, t1, ⟨er, rfl, ⟨nxT_S S (by rw [h4]; decide) (by rw [h4]; decide), by rw [nxT_fr.1 21 6 (by omega)]; exact hl, frF_N nxT_fr⟩, ⟨kc, ks, fc, _, .null, ⟨g1, p1 _ _ (Ne.symm hk.2.1) A.2.1, fun j x hj => (by cases hj), p1 _ _ (Ne.symm hk.1) A.2.2, fun j s hj => (by cases hj), rfl⟩, fun _ _ => rfl⟩, ⟨fun j x h1 h2 h3 h => p1 _ _ h1 h, by omega, by omega, by omega, by omega⟩⟩, ?_⟩
    with_reducible rfl
  · have er : rRa0 (tkP B n) i nl = .inl (2, i) := if_neg h4
    refine w_p (pc1 := 18) rfl rfl ?_
    refine w_p (pc1 := 19) rfl rfl ?_
    refine w_m0 (pc1 := 22) rfl rfl (h_gC rfl rfl rfl rfl) rfl ?_
    refine w_m0 (pc1 := 25) (st1 := .long (vl B n i) :: _) rfl rfl (h_gJe (j := 8) rfl rfl rfl rfl rfl (S.2.2.2.2.2.2.2)) rfl ?_
    refine w_p (pc1 := 26) (st1 := .int ((vl B n i).toInt32) :: _) rfl rfl ?_
    refine w_m0 (pc1 := 29) rfl rfl (x_pf (k := k0) (fs' := [.int 4, .int (-1), .ref (241 + kc), .ref (241 + ks), .int 0, .null, .int ((vl B n i).toInt32)]) rfl A.1 rfl rfl ⟨rfl, rfl⟩ (Or.inl rfl) (Nat.le_of_ble_eq_true rfl) rfl) rfl ?_
    rw [e1]
    refine w_p (pc1 := 30) rfl rfl ?_
    refine w_m0 (pc1 := 33) rfl rfl (h_gC rfl rfl rfl rfl) rfl ?_
    refine w_m0 (pc1 := 36) (st1 := .ref 4 :: _) rfl rfl rfl rfl ?_
    refine w_ji (pc1 := 39) (vs := [.ref 101, .ref 4]) (rest := []) (m_38n (d := d + 52) (sl := 0) S (by decide) h4) rfl rfl rfl (fun _ _ => rfl) rfl (by exact cl_v my_38 rfl rfl rfl (Nat.le_of_ble_eq_true rfl) rfl (MH_obj rfl rfl) rfl (by decide) rfl rfl) (by rfl) (Nat.le_of_ble_eq_true rfl) (Nat.le_of_ble_eq_true rfl) rfl (fun v h1 d1 hq => ?_) (fun a h1 d1 hq => ?_)
    · exact hq.elim
    · rcases hq with ⟨ha, hh, hn⟩
      · subst ha; subst hh; subst hn
        refine Or.inl ⟨ch_new (by decide) rfl, ?_⟩
        refine ⟨2, i, _, t1, sl + 0 + 0, ⟨er, flt_rf.1, flt_rf.2, ⟨fun j x h1 h2 h3 h => p1 _ _ h1 h, by omega, by omega, by omega, by omega⟩⟩, rfl, ?_, by omega⟩
        with_reducible rfl
set_option maxRecDepth 100000 in
theorem m_84 (S : tkS B n m C i) (h32 : kd B n i = 32) (hl : lfK (C.1 21 6) nl) : Wd L xs (d + 61) y_84 (0, [(0, .ref 120)], [], MH C t, sl) (PD B n m C t i sl (rRai (tkP B n) i nl) (QCh t)) (XD B n C t i sl (rRai (tkP B n) i nl)) := by
  have er : rRai (tkP B n) i nl = rRa0 (tkP B n) (i + 1) nl := rfl
  have S1 := nxT_S S (by rw [h32]; decide) (by rw [h32]; decide)
  have hl1 : lfK ((nxT B n C i).1 21 6) nl := by rw [nxT_fr.1 21 6 (by omega)]; exact hl
  refine w_p (pc1 := 1) rfl rfl ?_
  refine w_m0 (pc1 := 4) rfl rfl (h_gC rfl rfl rfl rfl) rfl ?_
  refine w_je (pc1 := 7) (vs := [.ref 101]) (rest := []) (st1 := []) (m_21s (d := d + 60) (sl := 0) S (by rw [h32]; decide) (by rw [h32]; decide)) rfl rfl rfl (fun _ _ => rfl) rfl (by exact cl_v my_21 rfl rfl rfl (Nat.le_of_ble_eq_true rfl) rfl (MH_obj rfl rfl) rfl (by decide) rfl rfl) (by rfl) (Nat.le_of_ble_eq_true rfl) (Nat.le_of_ble_eq_true rfl) rfl (by rfl) ?_
  refine w_m (pc1 := 10) rfl rfl (x_nw (c := 9) (du := 7) (fs := [.int 0, .int 0, .null, .null, .int 0, .null, .int 0]) rfl rfl rfl rfl rfl) rfl ?_
  obtain ⟨t1, e1, n1, q1, l1⟩ := tl_mk t (.inr (9, [.int 0, .int 0, .null, .null, .int 0, .null, .int 0]))
  rw [e1]
  refine w_p (pc1 := 11) rfl rfl ?_
  refine w_p (pc1 := 12) (st1 := .int 4 :: _) rfl rfl ?_
  refine w_p (pc1 := 13) (st1 := .int (-1) :: _) rfl rfl ?_
  refine w_ji (pc1 := 16) (vs := [.ref (241 + t.length), .int 4, .int (-1)]) (rest := [.ref (241 + t.length)]) (m_82 (d := d + 59) (sl := 0) (kd0 := 4) (tb0 := -1) n1) rfl rfl rfl (fun _ _ => rfl) rfl (by exact cl_i my_82 rfl rfl rfl (Nat.le_of_ble_eq_true rfl) rfl rfl ⟨rfl, rfl, rfl⟩ rfl) (by rfl) (Nat.le_of_ble_eq_true rfl) (Nat.le_of_ble_eq_true rfl) rfl (fun v h q hq => ?_) (fun _ _ _ e => e.elim)
  obtain ⟨rfl, ⟨t3, ⟨A, l3, p3⟩, rfl⟩, rfl⟩ := hq
  rw [l1] at A l3
  refine w_p (pc1 := 17) (al1 := [(1, .ref (241 + t.length)), (0, .ref 120)]) rfl rfl ?_
  have hbr := fun j x (hj : j ≠ t.length) (h : t[j]? = some x) => p3 j x hj (q1 j x h)
  refine Wd_q (d84 (d := d + 1) (sl := sl + 0 + 7 + (0 + 12)) (k0 := t.length) (kc := t.length + 1) (ks := t.length + 1 + 1) ⟨by omega, by omega, by omega⟩ S1 hl1 A) (fun v h q p => ?_) (fun a h q p => ?_)
  · obtain ⟨a2, i2, nl2, C3, t4, ⟨w1, w2, ⟨w3, w4, w5⟩, w6, w7⟩, w8⟩ := p
    have w9 := tlR_E (q := 0) hbr w7
    obtain ⟨_, y1, y2, y3, y4⟩ := w7
    exact ⟨a2, i2, nl2, C3, t4, ⟨er.trans w1, ⟨w2, w6⟩, ⟨w3, w4⟩, frRd_t (frRd_N nxT_fr) (frRd_F w5), w9, by omega, by omega⟩, w8, by omega⟩
  · obtain ⟨c, j, C3, t4, s, ⟨x1, x2, x3, x4⟩, x5⟩ := p
    have w9 := tlR_E (q := 0) hbr x4
    obtain ⟨_, y1, y2, y3, y4⟩ := x4
    exact ⟨c, j, C3, t4, s, ⟨er.trans x1, x2, frD_t (frD_N nxT_fr) x3, ⟨w9, by omega, by omega⟩, by omega⟩, x5⟩
/-! the whole of it, as a function -/
def rAct (K : tv2) (sc : sc_T) (p : Nat × Nat) (ti i : Nat) (nl : Option Nat) : pz_T (ac_T × Nat × Option Nat) := if K.1 i = 21 then rLet K sc (some p) p.1 ti p.2 i nl else if K.1 i = 32 then rRai K i nl else rChg K sc (some p) i nl
def rWhn (K : tv2) (sc : sc_T) (p : Nat × Nat) (i : Nat) (nl : Option Nat) : pz_T (Option (List op_T) × Nat × Option Nat) := if K.1 i = 42 then pb (rFm (fE K sc none (some p)) 8 (i + 1) nl) (fun x => .inr (some x.1, x.2)) else .inr (none, i, nl)
def rTr3 (K : tv2) (sc : sc_T) (nm : Int64) (p : Nat × Nat) (ti : Nat) (w : Option (List op_T) × Nat × Option Nat) : pz_T (tr_T × Nat × Option Nat) := pb (xpP K 16 w.2.1) (fun j => pb (rAct K sc p ti j w.2.2) (fun a => .inr ((nm, p.1, ti, p.2, w.1, a.1), a.2)))
def rTr2 (K : tv2) (sc : sc_T) (nm : Int64) (p : Nat × Nat) (ti i : Nat) (nl : Option Nat) : pz_T (tr_T × Nat × Option Nat) := pb (rWhn K sc p i nl) (rTr3 K sc nm p ti)
def rTim (K : tv2) (i : Nat) : pz_T (Nat × Nat) := if K.1 i = 5 then .inr (1, i + 1) else if K.1 i = 9 then .inr (0, i + 1) else .inl (2, i)
def rTr1 (K : tv2) (sc : sc_T) (nm : Int64) (i : Nat) (nl : Option Nat) : pz_T (tr_T × Nat × Option Nat) := pb (rTim K i) (fun ti => pb (rEvt K ti.2) (fun ev => pb (xpP K 29 ev.2) (fun j => pb (rTab K sc j) (fun tb => rTr2 K sc nm (tb.1, ev.1) ti.1 tb.2 nl))))
def rTrg (K : tv2) (sc : sc_T) (tr : Nat → Option tr_T) (i : Nat) (nl : Option Nat) : pz_T (tr_T × Nat × Option Nat) := pb (rNew K (trF tr) (trN tr) (i + 1)) (fun nm => rTr1 K sc nm.1 nm.2 nl)
def TRn (t : ab_H) (k : Nat) (g : tr_T) : Prop := ∃ ka vw, t[k]? = some (.inr (10, [.long (gNm g), .int (nI (gTb g)), .int (nI (gTi g)), .int (nI (gEv g)), vw, .ref (241 + ka)])) ∧ foK t 0 vw (gWh g) ∧ ACn t ka (gAc g)
/-! how a statement's reading ends -/
def PV {α : Type} (B : Nat → Nat) (n m : Nat) (C : co_T) (t : ab_H) (i sl : Nat) (r : pz_T (α × Nat × Option Nat)) (Q : α → co_T → ab_H → Prop) : Option Value → ab_H → Nat → Prop := fun v h q => ∃ a i' nl' C' t', (r = .inr (a, i', nl') ∧ none = v ∧ Q a C' t' ∧ (tkS B n m C' i' ∧ lfK (C'.1 21 6) nl') ∧ (frD C C' ∧ C'.2.2 20 3 = C.2.2 20 3) ∧ (tlE t t' ∧ t'.length ≤ t.length + 4 * (i' - i) ∧ i ≤ i')) ∧ MH C' t' = h ∧ q ≤ sl + 25 * (i' - i)
abbrev QTr (x : Int32) : tr_T → co_T → ab_H → Prop := fun g C' t' => (∃ k, C'.2.2 20 9 = some (241 + k) ∧ TRn t' k g) ∧ C'.1 20 5 = x
set_option maxRecDepth 100000 in
theorem ACn_e {t t' : ab_H} {k : Nat} {a : ac_T} (h : tlE t t') (A : ACn t k a) : ACn t' k a := by
  obtain ⟨kc, ks, fc, fs, vw, ⟨h1, h2, h3, h4, h5, h6⟩, h7⟩ := A
  exact ⟨kc, ks, fc, fs, vw, ⟨h _ _ h1, h _ _ h2, h3, h _ _ h4, fun j s hj => foK_e h (h5 j s hj), foK_e h h6⟩, h7⟩
set_option maxRecDepth 100000 in
theorem d78_4n {ka : Nat} {nm : Int64} {a : ac_T} {wh : Option (List op_T)} (hw : foK t 0 (.null) wh) (ha : ACn t ka a) (H : ∀ t', TRn t' t.length (nm, b, ti, e, wh, a) → tlE t t' → t'.length = t.length + 1 → P none (MH (sQ C 20 9 (some (241 + t.length))) t') (sl + 6)) : Wd L xs (d + 62) y_78 (199, [(7, .ref (241 + ka)), (6, .null), (5, .int (nI (b))), (4, .int (nI (e))), (3, .int (nI (ti))), (1, .long (nm)), (0, .ref 120)], [], MH C t, sl) P X := by
  refine w_p (pc1 := 200) rfl rfl ?_
  refine w_m (pc1 := 203) rfl rfl (x_nw (c := 10) (du := 6) (fs := [.long 0, .int 0, .int 0, .int 0, .null, .null]) rfl rfl rfl rfl rfl) rfl ?_
  obtain ⟨t1, e1, n1, q1, l1⟩ := tl_mk t (.inr (10, [.long 0, .int 0, .int 0, .int 0, .null, .null]))
  rw [e1]
  refine w_p (pc1 := 204) rfl rfl ?_
  refine w_p (pc1 := 205) rfl rfl ?_
  refine w_p (pc1 := 207) rfl rfl ?_
  refine w_p (pc1 := 208) rfl rfl ?_
  refine w_p (pc1 := 210) rfl rfl ?_
  refine w_p (pc1 := 212) rfl rfl ?_
  refine w_p (pc1 := 214) rfl rfl ?_
  refine w_ji (pc1 := 217) (vs := [.ref (241 + t.length), .long (nm), .int (nI (b)), .int (nI (ti)), .int (nI (e)), .null, .ref (241 + ka)]) (rest := [.ref (241 + t.length), .ref 120]) (m_88n (d := d + 60) (sl := 0) n1) rfl rfl rfl (fun _ _ => rfl) rfl (by exact cl_i my_88 rfl rfl rfl (Nat.le_of_ble_eq_true rfl) rfl rfl ⟨rfl, rfl, rfl⟩ rfl) (by rfl) (Nat.le_of_ble_eq_true rfl) (Nat.le_of_ble_eq_true rfl) rfl (fun v h q hq => ?_) (fun _ _ _ e => e.elim)
  obtain ⟨rfl, ⟨t2, ⟨g2, l2, p2⟩, rfl⟩, rfl⟩ := hq
  have hE : tlE t t2 := fun j x hx => p2 j x (by have := get_lt hx; omega) (q1 j x hx)
  refine w_m0 (pc1 := 220) rfl rfl (h_pR (j := 9) (v := some _) rfl rfl rfl rfl rfl rfl rfl ⟨rfl, rfl⟩ rfl) rfl ?_
  refine w_r rfl rfl rfl (fun _ _ => rfl) rfl ?_
  exact H t2 ⟨ka, .null, g2, foK_e hE hw, ACn_e hE ha⟩ hE (by omega)
set_option maxRecDepth 100000 in
theorem d78_4s {ka : Nat} {nm : Int64} {a : ac_T} {wh : Option (List op_T)} (hw : foK t 0 (.ref w) wh) (ha : ACn t ka a) (H : ∀ t', TRn t' t.length (nm, b, ti, e, wh, a) → tlE t t' → t'.length = t.length + 1 → P none (MH (sQ C 20 9 (some (241 + t.length))) t') (sl + 6)) : Wd L xs (d + 62) y_78 (199, [(7, .ref (241 + ka)), (6, .ref (w)), (5, .int (nI (b))), (4, .int (nI (e))), (3, .int (nI (ti))), (1, .long (nm)), (0, .ref 120)], [], MH C t, sl) P X := by
  refine w_p (pc1 := 200) rfl rfl ?_
  refine w_m (pc1 := 203) rfl rfl (x_nw (c := 10) (du := 6) (fs := [.long 0, .int 0, .int 0, .int 0, .null, .null]) rfl rfl rfl rfl rfl) rfl ?_
  obtain ⟨t1, e1, n1, q1, l1⟩ := tl_mk t (.inr (10, [.long 0, .int 0, .int 0, .int 0, .null, .null]))
  rw [e1]
  refine w_p (pc1 := 204) rfl rfl ?_
  refine w_p (pc1 := 205) rfl rfl ?_
  refine w_p (pc1 := 207) rfl rfl ?_
  refine w_p (pc1 := 208) rfl rfl ?_
  refine w_p (pc1 := 210) rfl rfl ?_
  refine w_p (pc1 := 212) rfl rfl ?_
  refine w_p (pc1 := 214) rfl rfl ?_
  refine w_ji (pc1 := 217) (vs := [.ref (241 + t.length), .long (nm), .int (nI (b)), .int (nI (ti)), .int (nI (e)), .ref (w), .ref (241 + ka)]) (rest := [.ref (241 + t.length), .ref 120]) (m_88s (d := d + 60) (sl := 0) n1) rfl rfl rfl (fun _ _ => rfl) rfl (by exact cl_i my_88 rfl rfl rfl (Nat.le_of_ble_eq_true rfl) rfl rfl ⟨rfl, rfl, rfl⟩ rfl) (by rfl) (Nat.le_of_ble_eq_true rfl) (Nat.le_of_ble_eq_true rfl) rfl (fun v h q hq => ?_) (fun _ _ _ e => e.elim)
  obtain ⟨rfl, ⟨t2, ⟨g2, l2, p2⟩, rfl⟩, rfl⟩ := hq
  have hE : tlE t t2 := fun j x hx => p2 j x (by have := get_lt hx; omega) (q1 j x hx)
  refine w_m0 (pc1 := 220) rfl rfl (h_pR (j := 9) (v := some _) rfl rfl rfl rfl rfl rfl rfl ⟨rfl, rfl⟩ rfl) rfl ?_
  refine w_r rfl rfl rfl (fun _ _ => rfl) rfl ?_
  exact H t2 ⟨ka, .ref w, g2, foK_e hE hw, ACn_e hE ha⟩ hE (by omega)
end TRK3
