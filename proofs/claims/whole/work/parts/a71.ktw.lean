
/-! ONE SIDE: a table is read, 14: the whole of it -/
def nwT (T : tb_S) (b : Nat) (nm : Int64) : tb_S := (((fun q => if q = b then nm else T.1.1 q), T.1.2), T.2)
def rTb1 (K : tv2) (T : tb_S) (b i : Nat) (nl : Option Nat) : pz_T (tb_S × Nat × Option Nat) := pb (xpP K 44 i) (fun j => pb (rItm K T b j nl) (fun x => rIts K b 600 x.1 x.2.1 x.2.2))
def rTbl (K : tv2) (T : tb_S) (i : Nat) (nl : Option Nat) : pz_T (tb_S × Nat × Option Nat) := pb (rNew K (tbF T.1.1) (tbN T.1.1) (i + 1)) (fun nm => rTb1 K (nwT T (tbN T.1.1).toNatClampNeg nm.1) (tbN T.1.1).toNatClampNeg nm.2 nl)
section TWH
variable {L : Nat} {xs : Nat → Int32} {B : Nat → Nat} {n m : Nat} {C C' C0 C1 : co_T} {t t0 t1 : ab_H} {d sl sl0 sl1 i i0 i1 j b e ti k k0 kc ks w c : Nat} {sc : sc_T} {row : Option Nat} {tg : Option (Nat × Nat)} {nl : Option Nat} {kd0 tb0 : Int32} {P : Option Value → ab_H → Nat → Prop} {X : Nat → ab_H → Nat → Prop} {cs : List Nat} {ss : List (Option (List op_T))} {E : fe_T} {tr : Nat → Option tr_T} {T : tb_S} {nm : Int64} {C2 : co_T}
def nwC (C : co_T) (b : Nat) (nm : Int64) : co_T := sI (sI (sI (sJ C 7 b nm) 20 10 (nI b)) 21 7 (nI b)) 21 10 1
set_option maxRecDepth 100000 in
theorem nw_1 {k j : Nat} : (nwC C b nm).1 k j = if k = 21 ∧ j = 10 then 1 else if k = 21 ∧ j = 7 then nI b else if k = 20 ∧ j = 10 then nI b else C.1 k j := by
  unfold nwC
  rw [sI_1, sI_1, sI_1]
  rfl
set_option maxRecDepth 100000 in
theorem nw_2 {k j : Nat} : (nwC C b nm).2.1 k j = if k = 7 ∧ j = b then nm else C.2.1 k j := by
  show (sJ C 7 b nm).2.1 k j = _
  rw [sJ_2]
set_option maxRecDepth 100000 in
theorem tbN_s {tn : Nat → Int64} (h : tbN tn ≠ -1) : ∃ b, tbN tn = nI b ∧ b < 6 ∧ tn b = 0 := by
  rcases fnd_b (fun j => decide (tn j = 0)) 6 0 with e | ⟨s, e, _, h2, h3⟩
  · exact absurd e h
  · exact ⟨s, e, by omega, of_decide_eq_true h3⟩
set_option maxRecDepth 100000 in
theorem nw_BK (K : BK C t T) : BK (nwC C b nm) t (nwT T b nm) := by
  refine ⟨⟨fun q hq => ?_, fun q hq => ⟨?_, (K.1.2 q hq).2.1, fun c hc => ?_⟩⟩, fun q c hq hc => ?_, K.2.2⟩
  · show _ = if q = b then nm else T.1.1 q
    by_cases e : q = b
    · rw [nw_2, if_pos ⟨rfl, e⟩, if_pos e]
    · rw [nw_2, if_neg (by omega), if_neg e]
      exact K.1.1 q hq
  · rw [nw_1, if_neg (by omega), if_neg (by omega), if_neg (by omega)]
    exact (K.1.2 q hq).1
  · rw [nw_2, if_neg (by omega)]
    exact (K.1.2 q hq).2.2 c hc
  · rw [nw_2, if_neg (by omega)]
    exact K.2.1 q c hq hc
def PTab (B : Nat → Nat) (n m : Nat) (C : co_T) (t : ab_H) (T : tb_S) (i sl : Nat) (r : pz_T (tb_S × Nat × Option Nat)) : Option Value → ab_H → Nat → Prop := fun v h q => ∃ b nm C2 T' i' nl' C' t', (r = .inr (T', i', nl') ∧ none = v ∧ (tbN T.1.1 = nI b ∧ b < 6 ∧ (frN C C2 ∧ nm ≠ 0)) ∧ TIv B n m (nwC C2 b nm) t i sl b (nwT T b nm) T' i' nl' C' t' q) ∧ MH C' t' = h
def XTab {α : Type} (B : Nat → Nat) (n : Nat) (C : co_T) (t : ab_H) (T : tb_S) (i sl : Nat) (r : pz_T α) : Nat → ab_H → Nat → Prop := fun a h q => ∃ c j C' t' s, (r = .inl (c, j) ∧ flt B n C' c j ∧ ((frD C C' ∧ C'.1 20 10 = C.1 20 10 ∧ t' = t) ∨ (∃ b nm C2, tbN T.1.1 = nI b ∧ b < 6 ∧ (frN C C2 ∧ nm ≠ 0) ∧ STB b (nwC C2 b nm) t C' t')) ∧ t'.length ≤ t.length + 4 * (j - i) ∧ i ≤ j ∧ s ≤ sl + 25 * (j - i)) ∧ Xk 12 C' t' s a h q
set_option maxRecDepth 100000 in
theorem m_29 (S : tkS B n m C i) (h1 : kd B n i ≠ 1) (h2 : kd B n i ≠ 2) (hl : lfK (C.1 21 6) nl) (R : RX C T.1 none none false) (K : BK C t T) (okk : ∀ i u, T.2.2 i = some u → okRu u) (hnz : ∀ j, kd B n j = 3 → vl B n j ≠ 0) (hz : nzp (rTbl (tkP B n) T i nl)) : Wd L xs (d + 61) y_29 (0, [(0, .ref 120)], [], MH C t, sl) (PTab B n m C t T i sl (rTbl (tkP B n) T i nl)) (XTab B n C t T i sl (rTbl (tkP B n) T i nl)) := by
  have S1 := nxT_S S h1 h2
  have f1 := nxT_fr (B := B) (n := n) (C := C) (i := i)
  refine w_p (pc1 := 1) rfl rfl ?_
  refine w_m0 (pc1 := 4) rfl rfl (h_gC rfl rfl rfl rfl) rfl ?_
  refine w_je (pc1 := 7) (vs := [.ref 101]) (rest := []) (st1 := []) (m_21s (d := d + 60) (sl := 0) S h1 h2) rfl rfl rfl (fun _ _ => rfl) rfl (by exact cl_v my_21 rfl rfl rfl (Nat.le_of_ble_eq_true rfl) rfl (MH_obj rfl rfl) rfl (by decide) rfl rfl) (by rfl) (Nat.le_of_ble_eq_true rfl) (Nat.le_of_ble_eq_true rfl) rfl (by rfl) ?_
  refine w_p (pc1 := 8) rfl rfl ?_
  refine w_m0 (pc1 := 11) (st1 := .ref 37 :: _) rfl rfl rfl rfl ?_
  refine w_ji (pc1 := 14) (vs := [.ref 120, .ref 37]) (rest := []) (m_30t (d := d + 53) (sl := 0) S1 (SCK_D K.1 (frD_N f1))) rfl rfl rfl (fun _ _ => rfl) rfl (by exact cl_v my_30 rfl rfl rfl (Nat.le_of_ble_eq_true rfl) rfl (MH_obj rfl rfl) rfl (by decide) rfl rfl) (by rfl) (Nat.le_of_ble_eq_true rfl) (Nat.le_of_ble_eq_true rfl) rfl (fun v h1 d1 hq => ?_) (fun a h1 d1 hq => ?_)
  · obtain ⟨nm, i1, C2, ⟨r1, hv, r3, r4⟩, hh, hn⟩ := hq
    subst hv; subst hh; subst hn
    obtain ⟨rfl, hg1, hg2, hg3⟩ := rNew_s r1
    obtain ⟨b, eb, hb6, hb0⟩ := tbN_s hg1
    have enat : (tbN T.1.1).toNatClampNeg = b := by rw [eb, nK_nat (by omega)]
    have er1 : rTbl (tkP B n) T i nl = rTb1 (tkP B n) (nwT T b nm) b (i + 1 + 1) nl := by
      unfold rTbl
      rw [pb_r r1]
      show rTb1 (tkP B n) (nwT T (tbN T.1.1).toNatClampNeg nm) (tbN T.1.1).toNatClampNeg (i + 1 + 1) nl = _
      rw [enat]
    have f2 := frN_t' f1 r4
    refine w_p (pc1 := 15) (al1 := [(1, .long (nm)), (0, .ref 120)]) rfl rfl ?_
    refine w_p (pc1 := 16) rfl rfl ?_
    refine w_p (pc1 := 17) rfl rfl ?_
    refine w_m0 (pc1 := 20) rfl rfl (h_gC rfl rfl rfl rfl) rfl ?_
    refine w_p (pc1 := 21) rfl rfl ?_
    refine w_je (pc1 := 24) (vs := [.ref 106, .long (nm)]) (rest := [.ref 120]) (st1 := [.int (nI (b)), .ref 120]) (m_37 (d := d + 58) (sl := 0) (SCK_D K.1 (frD_N f2)) eb hb6) rfl rfl rfl (fun _ _ => rfl) rfl (by exact cl_v my_37 rfl rfl rfl (Nat.le_of_ble_eq_true rfl) rfl (MH_obj rfl rfl) rfl (by decide) rfl rfl) (by rfl) (Nat.le_of_ble_eq_true rfl) (Nat.le_of_ble_eq_true rfl) rfl (by rfl) ?_
    refine w_m0 (pc1 := 27) rfl rfl (h_pI (j := 10) rfl rfl rfl rfl rfl rfl rfl ⟨rfl, rfl⟩ rfl) rfl ?_
    refine w_p (pc1 := 28) rfl rfl ?_
    refine w_m0 (pc1 := 31) rfl rfl (h_gC rfl rfl rfl rfl) rfl ?_
    refine w_p (pc1 := 32) rfl rfl ?_
    refine w_m0 (pc1 := 35) (st1 := .int (nI (b)) :: _) rfl rfl (h_gIe (j := 10) rfl rfl rfl rfl rfl (by rw [sI_1, if_pos ⟨rfl, rfl⟩])) rfl ?_
    refine w_m0 (pc1 := 38) rfl rfl (h_pI (j := 7) rfl rfl rfl rfl rfl rfl rfl ⟨rfl, rfl⟩ rfl) rfl ?_
    refine w_p (pc1 := 39) rfl rfl ?_
    refine w_m0 (pc1 := 42) rfl rfl (h_gC rfl rfl rfl rfl) rfl ?_
    refine w_p (pc1 := 43) (st1 := .int 1 :: _) rfl rfl ?_
    refine w_m0 (pc1 := 46) rfl rfl (h_pI (j := 10) rfl rfl rfl rfl rfl rfl rfl ⟨rfl, rfl⟩ rfl) rfl ?_
    show Wd L xs (d + 61) y_29 (46, [(1, .long nm), (0, .ref 120)], [], MH (nwC C2 b nm) t, _) _ _
    have hk3 : kd B n (i + 1) = 3 := by
      have := r1
      unfold rNew at this
      split at this
      · assumption
      · cases this
    have hbt : (nwT T b nm).1.1 b ≠ 0 := by
      show (if b = b then nm else T.1.1 b) ≠ 0
      rw [if_pos rfl, ← hg3]
      exact hnz _ hk3
    have hnm : nm ≠ 0 := by
      have h := hbt
      rwa [show (nwT T b nm).1.1 b = if b = b then nm else T.1.1 b from rfl, if_pos rfl] at h
    have K2 := BK_F (frF_N f2) (tlE_r (t := t)) K
    have K3 := nw_BK (b := b) (nm := nm) K2
    have S3 : tkS B n m (nwC C2 b nm) (i + 1 + 1) := tkS_g r3 (fun k j h => by rw [nw_1, if_neg (by omega), if_neg (by omega), if_neg (by omega)]) (fun k j h => by rw [nw_2, if_neg (by omega)]) (fun _ _ _ => rfl)
    have hl3 : lfK ((nwC C2 b nm).1 21 6) nl := by rw [nw_1, if_neg (by omega), if_neg (by omega), if_neg (by omega), f2.1 21 6 (by omega)]; exact hl
    have hb3 : (nwC C2 b nm).1 20 10 = nI b := by rw [nw_1, if_neg (by omega), if_neg (by omega), if_pos ⟨rfl, rfl⟩]
    have R3 : RX (nwC C2 b nm) (nwT T b nm).1 (some b) none true := by
      refine ⟨K3.1, ⟨?_, fun q hq => by cases hq; exact hb6⟩, ⟨?_, fun p hp => by cases hp⟩, ?_⟩
      · rw [nw_1, if_neg (by omega), if_pos ⟨rfl, rfl⟩]
        rfl
      · rw [nw_1, if_neg (by omega), if_neg (by omega), if_neg (by omega), f2.1 21 8 (by omega)]
        exact R.2.2.1.1
      · rw [nw_1, if_pos ⟨rfl, rfl⟩]
        rfl
    rw [er1] at hz
    have XM : ∀ (a : Nat) (h : ab_H) (q sl2 : Nat), sl2 ≤ sl → XIt B n (nwC C2 b nm) t (i + 1 + 1) sl2 b (rTb1 (tkP B n) (nwT T b nm) b (i + 1 + 1) nl) a h q → XTab B n C t T i sl (rTbl (tkP B n) T i nl) a h q := fun a h q sl2 hs p => by
      obtain ⟨c, j, C', t', s, ⟨x1, x2, x3, x4, x5, x6⟩, x7⟩ := p
      exact ⟨c, j, C', t', s, ⟨er1.trans x1, x2, Or.inr ⟨b, nm, C2, eb, hb6, ⟨f2, hnm⟩, x3⟩, by omega, by omega, by omega⟩, x7⟩
    by_cases h44 : kd B n (i + 1 + 1) = 44
    · have x0 : xpP (tkP B n) 44 (i + 1 + 1) = .inr (i + 1 + 1 + 1) := if_pos h44
      have er2 : rTb1 (tkP B n) (nwT T b nm) b (i + 1 + 1) nl = pb (rItm (tkP B n) (nwT T b nm) b (i + 1 + 1 + 1) nl) (fun x => rIts (tkP B n) b 600 x.1 x.2.1 x.2.2) := pb_r x0
      rw [er2] at hz
      have S4 := nxT_S S3 (by rw [h44]; decide) (by rw [h44]; decide)
      have f4 := nxT_fr (B := B) (n := n) (C := (nwC C2 b nm)) (i := i + 1 + 1)
      have K4 := BK_F (frF_N f4) (tlE_r (t := t)) K3
      have st4 : STB b (nwC C2 b nm) t (nxT B n (nwC C2 b nm) (i + 1 + 1)) t := STB_F (frF_N f4) tlE_r
      have hl4 : lfK ((nxT B n (nwC C2 b nm) (i + 1 + 1)).1 21 6) nl := by rw [f4.1 21 6 (by omega)]; exact hl3
      have R4 := TIv_RX (T0 := nwT T b nm) R3 K4 st4
      refine w_p (pc1 := 47) rfl rfl ?_
      refine w_m0 (pc1 := 50) rfl rfl (h_gC rfl rfl rfl rfl) rfl ?_
      refine w_m0 (pc1 := 53) (st1 := .ref 44 :: _) rfl rfl rfl rfl ?_
      refine w_je (pc1 := 56) (vs := [.ref 101, .ref 44]) (rest := []) (st1 := []) (m_38y (d := d + 59) (sl := 0) S3 (by decide) h44 (by decide) (by decide)) rfl rfl rfl (fun _ _ => rfl) rfl (by exact cl_v my_38 rfl rfl rfl (Nat.le_of_ble_eq_true rfl) rfl (MH_obj rfl rfl) rfl (by decide) rfl rfl) (by rfl) (Nat.le_of_ble_eq_true rfl) (Nat.le_of_ble_eq_true rfl) rfl (by rfl) ?_
      refine w_p (pc1 := 57) rfl rfl ?_
      refine w_ji (pc1 := 60) (vs := [.ref 120]) (rest := []) (m_39 (d := d) (sl := 0) (T := nwT T b nm) S4 hl4 K4 ((f4.1 20 10 (by omega)).trans hb3) hb6 hbt R4 okk (nzp_b hz)) rfl rfl rfl (fun _ _ => rfl) rfl (by exact cl_v my_39 rfl rfl rfl (Nat.le_of_ble_eq_true rfl) rfl (MH_obj rfl rfl) rfl (by decide) rfl rfl) (by rfl) (Nat.le_of_ble_eq_true rfl) (Nat.le_of_ble_eq_true rfl) rfl (fun v h1 d1 hq => ?_) (fun a h1 d1 hq => ?_)
      · obtain ⟨T2, i2, nl2, C3, t2, ⟨p1, hv, p3⟩, hh, hq⟩ := hq
        subst hv; subst hh
        have hz2 : nzp (rIts (tkP B n) b 600 T2 i2 nl2) := nzp_g (g := fun x => rIts (tkP B n) b 600 x.1 x.2.1 x.2.2) p1 hz
        have er3 : rTb1 (tkP B n) (nwT T b nm) b (i + 1 + 1) nl = rIts (tkP B n) b 600 T2 i2 nl2 := er2.trans (pb_r (g := fun x => rIts (tkP B n) b 600 x.1 x.2.1 x.2.2) p1)
        obtain ⟨p31, p32, p33, p34, p35⟩ := p3
        have IH := lp_29 (L := L) (xs := xs) (d := d) (B := B) (n := n) (m := m) (nm := nm) (C0 := (nwC C2 b nm)) (t0 := t) (i0 := i + 1 + 1) (sl0 := sl) (T0 := nwT T b nm) hb3 hb6 hbt R3 600 0 T2 i2 nl2 C3 t2 (sl + 0 + d1) rfl ⟨p31, p32, STB_t st4 p33, ⟨by omega, by omega, by omega⟩, rItm_k ⟨rfl, okk⟩ hb6 (fun q hq => (K.1.2 q hq).2.1) p1⟩ hz2
        refine w_p (pc1 := 61) (st1 := .int 0 :: _) rfl rfl ?_
        refine w_p (pc1 := 62) (al1 := [(3, .int 0), (1, .long (nm)), (0, .ref 120)]) rfl rfl ?_
        rw [← er3] at IH
        refine Wd_q IH (fun v h q p => ?_) (fun a h q p => XM a h q sl (Nat.le_refl _) p)
        obtain ⟨T3, i3, nl3, C4, t3, ⟨q1, q2, q3⟩, q4⟩ := p
        obtain ⟨q31, q32, q33, q34, q35⟩ := q3
        exact ⟨b, nm, C2, T3, i3, nl3, C4, t3, ⟨er1.trans q1, q2, ⟨eb, hb6, ⟨f2, hnm⟩⟩, q31, q32, q33, ⟨by omega, by omega, by omega⟩, q35⟩, q4⟩
      · rcases hq with ⟨c, j, C', t', s, ⟨x1, x2, x3, x4, x5, x6⟩, ha, hh, hn⟩
        · subst ha; subst hh; subst hn
          refine Or.inl ⟨ch_new (by decide) rfl, ?_⟩
          refine XM _ _ _ sl (Nat.le_refl _) ⟨c, j, C', t', sl + s, ⟨er2.trans (pb_l x1), x2, STB_t st4 x3, by omega, by omega, by omega⟩, rfl, ?_, by omega⟩
          with_reducible rfl
    · have x0 : xpP (tkP B n) 44 (i + 1 + 1) = .inl (2, i + 1 + 1) := if_neg h44
      refine w_p (pc1 := 47) rfl rfl ?_
      refine w_m0 (pc1 := 50) rfl rfl (h_gC rfl rfl rfl rfl) rfl ?_
      refine w_m0 (pc1 := 53) (st1 := .ref 44 :: _) rfl rfl rfl rfl ?_
      refine w_ji (pc1 := 56) (vs := [.ref 101, .ref 44]) (rest := []) (m_38n (d := d + 53) (sl := 0) S3 (by decide) h44) rfl rfl rfl (fun _ _ => rfl) rfl (by exact cl_v my_38 rfl rfl rfl (Nat.le_of_ble_eq_true rfl) rfl (MH_obj rfl rfl) rfl (by decide) rfl rfl) (by rfl) (Nat.le_of_ble_eq_true rfl) (Nat.le_of_ble_eq_true rfl) rfl (fun v h1 d1 hq => ?_) (fun a h1 d1 hq => ?_)
      · exact hq.elim
      · rcases hq with ⟨ha, hh, hn⟩
        · subst ha; subst hh; subst hn
          refine Or.inl ⟨ch_new (by decide) rfl, ?_⟩
          refine XM _ _ _ sl (Nat.le_refl _) ⟨2, i + 1 + 1, _, t, sl + 0, ⟨pb_l x0, flt_rf.1, STB_rf, by omega, by omega, by omega⟩, rfl, ?_, by omega⟩
          with_reducible rfl
  · rcases hq with ⟨c, j, ⟨x1, x2⟩, ha, hh, hn⟩
    · subst ha; subst hh; subst hn
      refine Or.inl ⟨ch_new (by decide) rfl, ?_⟩
      have := rNew_j x1
      refine ⟨c, j, _, t, sl + 0, ⟨pb_l x1, flt_rf.1, Or.inl ⟨frD_t (frD_N f1) flt_rf.2, f1.1 20 10 (by omega), rfl⟩, by omega, by omega, by omega⟩, rfl, ?_, by omega⟩
      with_reducible rfl
end TWH
