
/-! ONE SIDE: a table is read, 13: its items -/
def rEnd (K : tv2) (T : tb_S) (b i : Nat) (nl : Option Nat) : pz_T (tb_S × Nat × Option Nat) := if K.1 i = 45 then (if 1 ≤ T.1.2.1 b then .inr (T, i + 1, nl) else .inl (7, i)) else .inl (2, i)
def rIts (K : tv2) (b : Nat) : Nat → tb_S → Nat → Option Nat → pz_T (tb_S × Nat × Option Nat)
  | 0, T, i, nl => rEnd K T b i nl
  | f + 1, T, i, nl => if K.1 i = 48 then pb (rItm K T b (i + 1) nl) (fun x => rIts K b f x.1 x.2.1 x.2.2) else rEnd K T b i nl
section TTB
variable {L : Nat} {xs : Nat → Int32} {B : Nat → Nat} {n m : Nat} {C C' C0 C1 : co_T} {t t0 t1 : ab_H} {d sl sl0 sl1 i i0 i1 j b e ti k k0 kc ks w c : Nat} {sc : sc_T} {row : Option Nat} {tg : Option (Nat × Nat)} {nl : Option Nat} {kd0 tb0 : Int32} {P : Option Value → ab_H → Nat → Prop} {X : Nat → ab_H → Nat → Prop} {cs : List Nat} {ss : List (Option (List op_T))} {E : fe_T} {tr : Nat → Option tr_T} {ru : Nat → Option ru_T} {T T0 T' : tb_S} {s i' : Nat} {K : tv2} {nl' : Option Nat}
def okTb (T0 T : tb_S) : Prop := T.1.1 = T0.1.1 ∧ ∀ i u, T.2.2 i = some u → okRu u
set_option maxRecDepth 100000 in
theorem addR_k {u : ru_T} (h : okTb T0 T) (hu : okRu u) : okTb T0 (addR T u) := ⟨h.1, fun i v hv => by
  have hv : (if i = (ruN T.2.2).toNatClampNeg then some u else T.2.2 i) = some v := hv
  split at hv
  · cases hv
    exact hu
  · exact h.2 i v hv⟩
set_option maxRecDepth 100000 in
theorem rNnl_k (hT : okTb T0 T) (hb6 : b < 6) (hc : c < 6) (h : rNnl K T b c i nl = .inr (T', i', nl')) : okTb T0 T' := by
  unfold rNnl at h
  split at h
  · split at h
    · cases h
    · cases h
      exact addR_k hT ⟨Nat.le_of_ble_eq_true rfl, (fun x hx => by
        rcases List.mem_cons.mp hx with rfl | h
        · exact hc
        · cases h), hb6, (by decide : 0 < 5)⟩
  · cases h
    exact hT
set_option maxRecDepth 100000 in
theorem rItm_k (hT : okTb T0 T) (hb6 : b < 6) (hw : ∀ q, q < 6 → T.1.2.1 q ≤ 6) (h : rItm K T b i nl = .inr (T', i', nl')) : okTb T0 T' := by
  have nm : ∀ {q j : Nat} {y : List Nat × Nat}, q < 6 → rNam K T.1 q 7 [] j = .inr y → y.1.length ≤ 6 ∧ ∀ x, x ∈ y.1 → x < 6 := fun hq hy => rNam_6 (hw _ hq) hy
  unfold rItm at h
  split at h
  · unfold rNwc at h
    split at h
    · split at h
      · cases h
      · rename_i h6
        have hT1 : okTb T0 (addC T b (K.2 i)) := ⟨hT.1, hT.2⟩
        have hc : T.1.2.1 b < 6 := by omega
        unfold rDft at h
        split at h
        · obtain ⟨x, _, h⟩ := pb_inr h
          have hT2 : okTb T0 (setD (addC T b (K.2 i)) b (T.1.2.1 b) (some x.1.toInt32)) := ⟨hT.1, hT.2⟩
          exact rNnl_k hT2 hb6 hc h
        · exact rNnl_k hT1 hb6 hc h
    · cases h
  · have key : ∀ k, k < 5 → rKey K T b k i nl = .inr (T', i', nl') → okTb T0 T' := fun k hk h => by
      unfold rKey at h
      split at h
      · cases h
      · obtain ⟨j, _, h⟩ := pb_inr h
        obtain ⟨y, hy, h⟩ := pb_inr h
        obtain ⟨j2, _, h⟩ := pb_inr h
        cases h
        exact addR_k hT ⟨(nm hb6 hy).1, (nm hb6 hy).2, hb6, hk⟩
    split at h
    · exact key 1 (by decide) h
    · split at h
      · exact key 2 (by decide) h
      · split at h
        · unfold rChk at h
          split at h
          · cases h
          · obtain ⟨x, _, h⟩ := pb_inr h
            cases h
            exact addR_k hT ⟨Nat.le_of_ble_eq_true rfl, (fun x hx => by cases hx), hb6, (by decide : 3 < 5)⟩
        · split at h
          · unfold rRef at h
            split at h
            · cases h
            · obtain ⟨j1, _, h⟩ := pb_inr h
              obtain ⟨y, hy, h⟩ := pb_inr h
              unfold rRf1 at h
              obtain ⟨_, _, h⟩ := pb_inr h
              obtain ⟨_, _, h⟩ := pb_inr h
              obtain ⟨tb, _, h⟩ := pb_inr h
              obtain ⟨_, _, h⟩ := pb_inr h
              unfold rRf2 at h
              obtain ⟨z, _, h⟩ := pb_inr h
              split at h
              · split at h
                · unfold rRf3 at h
                  obtain ⟨_, _, h⟩ := pb_inr h
                  unfold rRf4 at h
                  obtain ⟨_, _, h⟩ := pb_inr h
                  cases h
                  exact addR_k hT ⟨(nm hb6 hy).1, (nm hb6 hy).2, hb6, (by decide : 4 < 5)⟩
                · cases h
              · cases h
          · cases h
/-! what holds between two items -/
def TIv (B : Nat → Nat) (n m : Nat) (C0 : co_T) (t0 : ab_H) (i0 sl0 b : Nat) (T0 T : tb_S) (i : Nat) (nl : Option Nat) (C : co_T) (t : ab_H) (sl : Nat) : Prop := (tkS B n m C i ∧ lfK (C.1 21 6) nl) ∧ BK C t T ∧ STB b C0 t0 C t ∧ (t.length ≤ t0.length + 4 * (i - i0) ∧ i0 ≤ i ∧ sl ≤ sl0 + 25 * (i - i0)) ∧ okTb T0 T
set_option maxRecDepth 100000 in
theorem m_47n (hb : b < 6) (hw : C.1 8 b = nI 0) : Wd L xs d y_47 (0, [(0, .ref 106), (1, .int (nI b)), (2, .int 0)], [], MH C t, sl) (Rt (some (.int 0)) (MH C t) sl) nX := by
  refine w_p (pc1 := 1) rfl rfl ?_
  refine w_f (a := 34) (b := 4) (bN_lt_f (a := b) (b := 0) (by omega) (by omega) (by omega)) rfl rfl ?_
  refine w_p (pc1 := 5) rfl rfl ?_
  refine w_p (pc1 := 7) (st1 := .int 6 :: _) rfl rfl ?_
  refine w_f (a := 34) (b := 10) (bN_ge_f (a := b) (b := 6) (by omega) (by omega) (by omega)) rfl rfl ?_
  refine w_p (pc1 := 11) rfl rfl ?_
  refine w_f (a := 34) (b := 14) rfl rfl rfl ?_
  refine w_p (pc1 := 15) rfl rfl ?_
  refine w_p (pc1 := 16) rfl rfl ?_
  refine w_m0 (pc1 := 19) rfl rfl (h_gC rfl rfl rfl rfl) rfl ?_
  refine w_p (pc1 := 20) rfl rfl ?_
  refine w_m0 (pc1 := 21) (st1 := .int (nI (0)) :: _) rfl rfl (n_ile (e := b) rfl rfl rfl (by omega) (hw)) rfl ?_
  refine w_t (a := 34) (b := 24) (bN_ge_t (a := 0) (b := 0) (by omega) (by omega) (by omega)) rfl rfl ?_
  refine w_p (pc1 := 35) (st1 := .int 0 :: _) rfl rfl ?_
  refine w_r rfl rfl rfl (fun _ _ => rfl) rfl ?_
  exact ⟨rfl, rfl, rfl⟩
def PTv (B : Nat → Nat) (n m : Nat) (C0 : co_T) (t0 : ab_H) (i0 sl0 b : Nat) (T0 : tb_S) (r : pz_T (tb_S × Nat × Option Nat)) : Option Value → ab_H → Nat → Prop := fun v h q => ∃ T2 i2 nl2 C2 t2, (r = .inr (T2, i2, nl2) ∧ none = v ∧ TIv B n m C0 t0 i0 sl0 b T0 T2 i2 nl2 C2 t2 q) ∧ MH C2 t2 = h
set_option maxRecDepth 100000 in
theorem d29e {nm : Int64} {p : Nat} (hb0 : C0.1 20 10 = nI b) (hb6 : b < 6) (I : TIv B n m C0 t0 i0 sl0 b T0 T i nl C t sl) : Wd L xs (d + 61) y_29 (92, [(3, .int (nI p)), (1, .long nm), (0, .ref 120)], [], MH C t, sl) (PTv B n m C0 t0 i0 sl0 b T0 (rEnd (tkP B n) T b i nl)) (XIt B n C0 t0 i0 sl0 b (rEnd (tkP B n) T b i nl)) := by
  obtain ⟨⟨S, hl⟩, K, st, ⟨l1, l2, l3⟩, okk⟩ := I
  have hb : C.1 20 10 = nI b := st.2.2.2.1.trans hb0
  have hw := (K.1.2 b hb6).1
  have hw6 := (K.1.2 b hb6).2.1
  by_cases h45 : kd B n i = 45
  · have h45' : (tkP B n).1 i = 45 := h45
    by_cases hw1 : 1 ≤ T.1.2.1 b
    · have er : rEnd (tkP B n) T b i nl = .inr (T, i + 1, nl) := (if_pos h45').trans (if_pos hw1)
      have f2 := nxT_fr (B := B) (n := n) (C := C) (i := i)
      refine w_p (pc1 := 93) rfl rfl ?_
      refine w_m0 (pc1 := 96) rfl rfl (h_gC rfl rfl rfl rfl) rfl ?_
      refine w_m0 (pc1 := 99) (st1 := .ref (kd B n i) :: _) rfl rfl (h_gRs (j := 6) rfl rfl rfl rfl rfl (tkS_tok S)) rfl ?_
      refine w_m0 (pc1 := 102) (st1 := .ref 45 :: _) rfl rfl rfl rfl ?_
      refine w_an_y (A := 129) (Bn := 105) (ok_kd) (by decide) (h45) rfl rfl rfl ?_
      refine w_p (pc1 := 106) rfl rfl ?_
      refine w_m0 (pc1 := 109) rfl rfl (h_gC rfl rfl rfl rfl) rfl ?_
      refine w_p (pc1 := 110) rfl rfl ?_
      refine w_m0 (pc1 := 113) (st1 := .int (nI (b)) :: _) rfl rfl (h_gIe (j := 10) rfl rfl rfl rfl rfl (hb)) rfl ?_
      refine w_p (pc1 := 114) (st1 := .int 0 :: _) rfl rfl ?_
      refine w_je (pc1 := 117) (vs := [.ref 106, .int (nI (b)), .int 0]) (rest := []) (st1 := [.int 1]) (m_47 (d := d + 60) (sl := 0) (c := 0) hb6 hw hw6 (by omega)) rfl rfl rfl (fun _ _ => rfl) rfl (by exact cl_v my_47 rfl rfl rfl (Nat.le_of_ble_eq_true rfl) rfl (MH_obj rfl rfl) rfl (by decide) rfl rfl) (by rfl) (Nat.le_of_ble_eq_true rfl) (Nat.le_of_ble_eq_true rfl) rfl (by rfl) ?_
      refine w_t (a := 129) (b := 120) rfl rfl rfl ?_
      refine w_p (pc1 := 130) rfl rfl ?_
      refine w_m0 (pc1 := 133) rfl rfl (h_gC rfl rfl rfl rfl) rfl ?_
      refine w_m0 (pc1 := 136) (st1 := .ref 45 :: _) rfl rfl rfl rfl ?_
      refine w_je (pc1 := 139) (vs := [.ref 101, .ref 45]) (rest := []) (st1 := []) (m_38y (d := d + 59) (sl := 0) S (by decide) h45 (by decide) (by decide)) rfl rfl rfl (fun _ _ => rfl) rfl (by exact cl_v my_38 rfl rfl rfl (Nat.le_of_ble_eq_true rfl) rfl (MH_obj rfl rfl) rfl (by decide) rfl rfl) (by rfl) (Nat.le_of_ble_eq_true rfl) (Nat.le_of_ble_eq_true rfl) rfl (by rfl) ?_
      refine w_r rfl rfl rfl (fun _ _ => rfl) rfl ?_
      refine ⟨T, i + 1, nl, nxT B n C i, t, ⟨er, rfl, ⟨nxT_S S (by rw [h45]; decide) (by rw [h45]; decide), ?_⟩, BK_F (frF_N f2) tlE_r K, STB_t st (STB_F (frF_N f2) tlE_r), ⟨by omega, by omega, by omega⟩, okk⟩, ?_⟩
      · rw [f2.1 21 6 (by omega)]
        exact hl
      · with_reducible rfl
    · have er : rEnd (tkP B n) T b i nl = .inl (7, i) := (if_pos h45').trans (if_neg hw1)
      have hw0 : C.1 8 b = nI 0 := by rw [hw, show T.1.2.1 b = 0 by omega]
      refine w_p (pc1 := 93) rfl rfl ?_
      refine w_m0 (pc1 := 96) rfl rfl (h_gC rfl rfl rfl rfl) rfl ?_
      refine w_m0 (pc1 := 99) (st1 := .ref (kd B n i) :: _) rfl rfl (h_gRs (j := 6) rfl rfl rfl rfl rfl (tkS_tok S)) rfl ?_
      refine w_m0 (pc1 := 102) (st1 := .ref 45 :: _) rfl rfl rfl rfl ?_
      refine w_an_y (A := 129) (Bn := 105) (ok_kd) (by decide) (h45) rfl rfl rfl ?_
      refine w_p (pc1 := 106) rfl rfl ?_
      refine w_m0 (pc1 := 109) rfl rfl (h_gC rfl rfl rfl rfl) rfl ?_
      refine w_p (pc1 := 110) rfl rfl ?_
      refine w_m0 (pc1 := 113) (st1 := .int (nI (b)) :: _) rfl rfl (h_gIe (j := 10) rfl rfl rfl rfl rfl (hb)) rfl ?_
      refine w_p (pc1 := 114) (st1 := .int 0 :: _) rfl rfl ?_
      refine w_je (pc1 := 117) (vs := [.ref 106, .int (nI (b)), .int 0]) (rest := []) (st1 := [.int 0]) (m_47n (d := d + 60) (sl := 0) hb6 hw0) rfl rfl rfl (fun _ _ => rfl) rfl (by exact cl_v my_47 rfl rfl rfl (Nat.le_of_ble_eq_true rfl) rfl (MH_obj rfl rfl) rfl (by decide) rfl rfl) (by rfl) (Nat.le_of_ble_eq_true rfl) (Nat.le_of_ble_eq_true rfl) rfl (by rfl) ?_
      refine w_f (a := 129) (b := 120) rfl rfl rfl ?_
      refine w_p (pc1 := 121) rfl rfl ?_
      refine w_m0 (pc1 := 124) rfl rfl (h_gC rfl rfl rfl rfl) rfl ?_
      refine w_p (pc1 := 126) (st1 := .int 7 :: _) rfl rfl ?_
      refine w_ji (pc1 := 129) (vs := [.ref 101, .int 7]) (rest := []) (m_31 (d := d + 54) (sl := 0) (c := 7) S) rfl rfl rfl (fun _ _ => rfl) rfl (by exact cl_v my_31 rfl rfl rfl (Nat.le_of_ble_eq_true rfl) rfl (MH_obj rfl rfl) rfl (by decide) rfl rfl) (by rfl) (Nat.le_of_ble_eq_true rfl) (Nat.le_of_ble_eq_true rfl) rfl (fun v h1 d1 hq => ?_) (fun a h1 d1 hq => ?_)
      · exact hq.elim
      · rcases hq with ⟨ha, hh, hn⟩
        · subst ha; subst hh; subst hn
          refine Or.inl ⟨ch_new (by decide) rfl, ?_⟩
          refine ⟨7, i, _, t, sl + 0, ⟨er, flt_rf.1, STB_t st STB_rf, by omega, by omega, by omega⟩, rfl, ?_, by omega⟩
          with_reducible rfl
  · have er : rEnd (tkP B n) T b i nl = .inl (2, i) := if_neg h45
    refine w_p (pc1 := 93) rfl rfl ?_
    refine w_m0 (pc1 := 96) rfl rfl (h_gC rfl rfl rfl rfl) rfl ?_
    refine w_m0 (pc1 := 99) (st1 := .ref (kd B n i) :: _) rfl rfl (h_gRs (j := 6) rfl rfl rfl rfl rfl (tkS_tok S)) rfl ?_
    refine w_m0 (pc1 := 102) (st1 := .ref 45 :: _) rfl rfl rfl rfl ?_
    refine w_an_n (A := 129) (ok_kd) (by decide) (h45) rfl rfl ?_
    refine w_p (pc1 := 130) rfl rfl ?_
    refine w_m0 (pc1 := 133) rfl rfl (h_gC rfl rfl rfl rfl) rfl ?_
    refine w_m0 (pc1 := 136) (st1 := .ref 45 :: _) rfl rfl rfl rfl ?_
    refine w_ji (pc1 := 139) (vs := [.ref 101, .ref 45]) (rest := []) (m_38n (d := d + 53) (sl := 0) S (by decide) h45) rfl rfl rfl (fun _ _ => rfl) rfl (by exact cl_v my_38 rfl rfl rfl (Nat.le_of_ble_eq_true rfl) rfl (MH_obj rfl rfl) rfl (by decide) rfl rfl) (by rfl) (Nat.le_of_ble_eq_true rfl) (Nat.le_of_ble_eq_true rfl) rfl (fun v h1 d1 hq => ?_) (fun a h1 d1 hq => ?_)
    · exact hq.elim
    · rcases hq with ⟨ha, hh, hn⟩
      · subst ha; subst hh; subst hn
        refine Or.inl ⟨ch_new (by decide) rfl, ?_⟩
        refine ⟨2, i, _, t, sl + 0, ⟨er, flt_rf.1, STB_t st STB_rf, by omega, by omega, by omega⟩, rfl, ?_, by omega⟩
        with_reducible rfl
set_option maxRecDepth 100000 in
theorem TIv_RX {g : Bool} (hR : RX C0 T0.1 (some b) none g) (K : BK C t T) (st : STB b C0 t0 C t) : RX C T.1 (some b) none g := by
  have e := st.2.2.2.2.2
  exact ⟨K.1, ⟨(e 7 (by omega)).trans hR.2.1.1, hR.2.1.2⟩, ⟨(e 8 (by omega)).trans hR.2.2.1.1, fun p hp => by cases hp⟩, (e 10 (by omega)).trans hR.2.2.2⟩
set_option maxRecDepth 100000 in
theorem lp_29 {nm : Int64} (hb0 : C0.1 20 10 = nI b) (hb6 : b < 6) (hbt : T0.1.1 b ≠ 0) (hR : RX C0 T0.1 (some b) none true) : ∀ (f p : Nat) (T : tb_S) (i : Nat) (nl : Option Nat) (C : co_T) (t : ab_H) (sl : Nat), p + f = 600 → TIv B n m C0 t0 i0 sl0 b T0 T i nl C t sl → nzp (rIts (tkP B n) b f T i nl) → Wd L xs (d + 61) y_29 (62, [(3, .int (nI p)), (1, .long nm), (0, .ref 120)], [], MH C t, sl) (PTv B n m C0 t0 i0 sl0 b T0 (rIts (tkP B n) b f T i nl)) (XIt B n C0 t0 i0 sl0 b (rIts (tkP B n) b f T i nl))
  | 0, p, T, i, nl, C, t, sl, hp, I, hz => by
    refine w_p (pc1 := 63) rfl rfl ?_
    refine w_p (pc1 := 66) (st1 := .int 600 :: _) rfl rfl ?_
    refine w_t (a := 92) (b := 69) (bN_ge_t (a := p) (b := 600) (by omega) (by omega) (by omega)) rfl rfl ?_
    exact d29e hb0 hb6 I
  | f + 1, p, T, i, nl, C, t, sl, hp, I, hz => by
    by_cases h48 : kd B n i = 48
    · have er : rIts (tkP B n) b (f + 1) T i nl = pb (rItm (tkP B n) T b (i + 1) nl) (fun x => rIts (tkP B n) b f x.1 x.2.1 x.2.2) := if_pos h48
      rw [er] at hz ⊢
      obtain ⟨⟨S, hl⟩, K, st, ⟨l1, l2, l3⟩, okk⟩ := I
      have S1 := nxT_S S (by rw [h48]; decide) (by rw [h48]; decide)
      have f1 := nxT_fr (B := B) (n := n) (C := C) (i := i)
      have K1 := BK_F (frF_N f1) (tlE_r (t := t)) K
      have st1 := STB_t st (STB_F (b := b) (frF_N f1) (tlE_r (t := t)))
      have hl1 : lfK ((nxT B n C i).1 21 6) nl := by rw [f1.1 21 6 (by omega)]; exact hl
      have hb1 : (nxT B n C i).1 20 10 = nI b := st1.2.2.2.1.trans hb0
      have hbt1 : T.1.1 b ≠ 0 := by rw [okk.1]; exact hbt
      refine w_p (pc1 := 63) rfl rfl ?_
      refine w_p (pc1 := 66) (st1 := .int 600 :: _) rfl rfl ?_
      refine w_f (a := 92) (b := 69) (bN_ge_f (a := p) (b := 600) (by omega) (by omega) (by omega)) rfl rfl ?_
      refine w_p (pc1 := 70) rfl rfl ?_
      refine w_m0 (pc1 := 73) rfl rfl (h_gC rfl rfl rfl rfl) rfl ?_
      refine w_m0 (pc1 := 76) (st1 := .ref 48 :: _) rfl rfl rfl rfl ?_
      refine w_je (pc1 := 79) (vs := [.ref 101, .ref 48]) (rest := []) (st1 := [.int 1]) (m_44y (d := d + 59) (sl := 0) S (by decide) h48 (by decide) (by decide)) rfl rfl rfl (fun _ _ => rfl) rfl (by exact cl_v my_44 rfl rfl rfl (Nat.le_of_ble_eq_true rfl) rfl (MH_obj rfl rfl) rfl (by decide) rfl rfl) (by rfl) (Nat.le_of_ble_eq_true rfl) (Nat.le_of_ble_eq_true rfl) rfl (by rfl) ?_
      refine w_f (a := 92) (b := 82) rfl rfl rfl ?_
      refine w_p (pc1 := 83) rfl rfl ?_
      refine w_ji (pc1 := 86) (vs := [.ref 120]) (rest := []) (m_39 (d := d) (sl := 0) S1 hl1 K1 hb1 hb6 hbt1 (TIv_RX hR K1 st1) okk.2 (nzp_b hz)) rfl rfl rfl (fun _ _ => rfl) rfl (by exact cl_v my_39 rfl rfl rfl (Nat.le_of_ble_eq_true rfl) rfl (MH_obj rfl rfl) rfl (by decide) rfl rfl) (by rfl) (Nat.le_of_ble_eq_true rfl) (Nat.le_of_ble_eq_true rfl) rfl (fun v h1 d1 hq => ?_) (fun a h1 d1 hq => ?_)
      · obtain ⟨T2, i2, nl2, C2, t2, ⟨p1, hv, p3⟩, hh, hq⟩ := hq
        subst hv; subst hh
        have hz2 : nzp (rIts (tkP B n) b f T2 i2 nl2) := nzp_g (g := fun x => rIts (tkP B n) b f x.1 x.2.1 x.2.2) p1 hz
        have IH := lp_29 (nm := nm) hb0 hb6 hbt hR f (p + 1) T2 i2 nl2 C2 t2 (sl + 0 + d1) (by omega) ⟨p3.1, p3.2.1, STB_t st1 p3.2.2.1, ⟨by have := p3.2.2.2.1; omega, by have := p3.2.2.2.2; omega, by have := p3.2.2.2.2; omega⟩, rItm_k okk hb6 (fun q hq => (K.1.2 q hq).2.1) p1⟩ hz2
        refine w_iinc (pc1 := 89) (u := nI (p)) (z := nI (p + 1)) (al1 := [(3, .int (nI (p + 1))), (1, .long (nm)), (0, .ref 120)]) rfl rfl rfl nK_1 rfl rfl ?_
        refine w_p (pc1 := 62) rfl rfl ?_
        rw [pb_r p1]
        exact IH
      · rcases hq with ⟨c, j, C', t', s, ⟨x1, x2, x3, x4, x5, x6⟩, ha, hh, hn⟩
        · subst ha; subst hh; subst hn
          refine Or.inl ⟨ch_new (by decide) rfl, ?_⟩
          refine ⟨c, j, C', t', sl + s, ⟨pb_l x1, x2, STB_t st1 x3, by omega, by omega, by omega⟩, rfl, ?_, by omega⟩
          with_reducible rfl
    · have er : rIts (tkP B n) b (f + 1) T i nl = rEnd (tkP B n) T b i nl := if_neg h48
      rw [er]
      have I0 := I
      obtain ⟨⟨S, hl⟩, K, st, ⟨l1, l2, l3⟩, okk⟩ := I
      refine w_p (pc1 := 63) rfl rfl ?_
      refine w_p (pc1 := 66) (st1 := .int 600 :: _) rfl rfl ?_
      refine w_f (a := 92) (b := 69) (bN_ge_f (a := p) (b := 600) (by omega) (by omega) (by omega)) rfl rfl ?_
      refine w_p (pc1 := 70) rfl rfl ?_
      refine w_m0 (pc1 := 73) rfl rfl (h_gC rfl rfl rfl rfl) rfl ?_
      refine w_m0 (pc1 := 76) (st1 := .ref 48 :: _) rfl rfl rfl rfl ?_
      refine w_je (pc1 := 79) (vs := [.ref 101, .ref 48]) (rest := []) (st1 := [.int 0]) (m_44n (d := d + 60) (sl := 0) S (by decide) h48) rfl rfl rfl (fun _ _ => rfl) rfl (by exact cl_v my_44 rfl rfl rfl (Nat.le_of_ble_eq_true rfl) rfl (MH_obj rfl rfl) rfl (by decide) rfl rfl) (by rfl) (Nat.le_of_ble_eq_true rfl) (Nat.le_of_ble_eq_true rfl) rfl (by rfl) ?_
      refine w_t (a := 92) (b := 82) rfl rfl rfl ?_
      exact d29e hb0 hb6 I0
end TTB
