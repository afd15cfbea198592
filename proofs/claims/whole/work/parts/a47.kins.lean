
/-! ONE SIDE: a change is read, 3: an insert -/
/-! an act that is being read: its cells, what else the tail holds -/
def ACs (t : ab_H) (k0 kc ks : Nat) (kd0 tb0 : Int32) (a : ac_T) (vw : Value) : Prop := ∃ fc fs, AP t k0 kc ks kd0 tb0 fc fs (nI (aSs a).length) vw (aNo a) ∧ arI fc 0 (aCs a) ∧ (∀ j s, (aSs a)[j]? = some s → foK t 0 (va_rf (fs j)) s) ∧ (∀ j, (aSs a).length ≤ j → fs j = none)
def tlR (k0 kc ks i0 i sl0 sl : Nat) (t0 t : ab_H) : Prop := (∀ j x, j ≠ k0 → j ≠ ks → j ≠ kc → t0[j]? = some x → t[j]? = some x) ∧ t.length ≤ t0.length + 4 * (i - i0) ∧ t0.length ≤ t.length ∧ sl ≤ sl0 + 25 * (i - i0) ∧ i0 ≤ i
def PAc (B : Nat → Nat) (n m : Nat) (C : co_T) (t : ab_H) (i sl k0 kc ks : Nat) (kd0 tb0 : Int32) (r : pz_T (ac_T × Nat × Option Nat)) : Option Value → ab_H → Nat → Prop := fun v h q => ∃ a i' nl' C' t', (r = .inr (a, i', nl') ∧ none = v ∧ (tkS B n m C' i' ∧ lfK (C'.1 21 6) nl' ∧ frF C C') ∧ ACs t' k0 kc ks kd0 tb0 a .null ∧ tlR k0 kc ks i i' sl q t t') ∧ MH C' t' = h
def XAc {α : Type} (B : Nat → Nat) (n : Nat) (C : co_T) (t : ab_H) (i sl k0 kc ks : Nat) (r : pz_T α) : Nat → ab_H → Nat → Prop := fun a h q => ∃ c j C' t' s, (r = .inl (c, j) ∧ flt B n C' c j ∧ frD C C' ∧ tlR k0 kc ks i j sl s t t') ∧ Xk 12 C' t' s a h q
section INS
variable {L : Nat} {xs : Nat → Int32} {B : Nat → Nat} {n m : Nat} {C C' C0 : co_T} {t t0 : ab_H} {d sl sl0 i i0 j b k k0 kc ks w : Nat} {sc : sc_T} {row : Option Nat} {tg : Option (Nat × Nat)} {nl : Option Nat} {kd0 tb0 : Int32} {P : Option Value → ab_H → Nat → Prop} {X : Nat → ab_H → Nat → Prop} {pre : List (Option (List op_T))} {s : Option (List op_T)} {E : fe_T}
set_option maxRecDepth 100000 in
theorem m_86 (hk : k0 ≠ ks ∧ k0 ≠ kc ∧ ks ≠ kc) (S : tkS B n m C i) (hi : 1 ≤ i) (hl : lfK (C.1 21 6) nl) (R : RX C sc none tg false) (hb : b < 6) (hbt : sc.1 b ≠ 0) {fc : Nat → Int32} (A : AP t k0 kc ks kd0 (nI b) fc (fun _ => none) 0 .null 0) (hz : nzp (rIns (tkP B n) sc tg b i nl)) : Wd L xs (d + 57) y_86 (0, [(0, .ref 120), (1, .ref (241 + k0))], [], MH C t, sl) (PAc B n m C t i sl k0 kc ks kd0 (nI b) (rIns (tkP B n) sc tg b i nl)) (XAc B n C t i sl k0 kc ks (rIns (tkP B n) sc tg b i nl)) := by
  have hkt : k0 < t.length ∧ ks < t.length ∧ kc < t.length := ⟨get_lt A.1, get_lt A.2.2, get_lt A.2.1⟩
  by_cases hk44 : kd B n i = 44
  · have e0 : xpP (tkP B n) 44 i = .inr (i + 1) := if_pos hk44
    have hS1 := nxT_S S (by rw [hk44]; decide) (by rw [hk44]; decide)
    have R1 := RX_F R (frF_N (nxT_fr (B := B) (n := n) (i := i)))
    have er : rIns (tkP B n) sc tg b i nl = pb (rPar (fE (tkP B n) sc none tg) 601 (i + 1) nl) (fun p => if (tkP B n).1 p.2.1 = 45 then (if p.1.length = sc.2.1 b then .inr ((0, some b, [], p.1, none, 0), p.2.1 + 1, p.2.2) else .inl (7, p.2.1)) else .inl (2, p.2.1)) := pb_r e0
    rw [er] at hz
    have hN : ∀ (l : List (Option (List op_T))) (i' : Nat) (nl' : Option Nat) (C' : co_T) (t' : ab_H) (sl' : Nat), rPar (fE (tkP B n) sc none tg) 601 (i + 1) nl = .inr (l, i', nl') → PAs B n m (nxT B n C i) t (i + 1) (sl + 0) k0 kc ks kd0 (nI b) ([] ++ l) i' nl' C' t' sl' → Wd L xs (d + 57) y_86 (102, [(2, .int (nI ([] ++ l).length)), (0, .ref 120), (1, .ref (241 + k0))], [], MH C' t', sl') (PAc B n m C t i sl k0 kc ks kd0 (nI b) (rIns (tkP B n) sc tg b i nl)) (XAc B n C t i sl k0 kc ks (rIns (tkP B n) sc tg b i nl)) := by
      intro l i' nl' C' t' sl' e A'
      rw [List.nil_append] at A' ⊢
      obtain ⟨⟨hS, hl', hF⟩, ⟨fc', fs', A1, A2, A3⟩, B1, B2, B3, B4, B5, B6⟩ := A'
      have hm6 := tkS_600 hS
      have him := hS.2.2.2.1
      have e1 := er.trans (pb_r e)
      by_cases h45 : kd B n i' = 45
      · have hR := RX_F R1 hF
        have hw := (hR.1.2 b hb)
        have hT : isT C' b = true := by
          unfold isT
          rw [hR.1.1 b hb, decide_eq_false hbt]
          rfl
        have hwd := m_43t (L := L) (xs := xs) (C := C') (t := t') (d := d + 55) (sl := 0) hb hT
        rw [hw.1] at hwd
        have e1 : rIns (tkP B n) sc tg b i nl = if l.length = sc.2.1 b then .inr ((0, some b, [], l, none, 0), i' + 1, nl') else .inl (7, i') := e1.trans (if_pos h45)
        by_cases hlw : l.length = sc.2.1 b
        · have e1 : rIns (tkP B n) sc tg b i nl = .inr ((0, some b, [], l, none, 0), i' + 1, nl') := e1.trans (if_pos hlw)
          have hS2 := nxT_S hS (by rw [h45]; decide) (by rw [h45]; decide)
          have h6 := hw.2.1
          refine w_p (pc1 := 103) rfl rfl ?_
          refine w_m0 (pc1 := 106) rfl rfl (h_gC rfl rfl rfl rfl) rfl ?_
          refine w_m0 (pc1 := 109) (st1 := .ref (kd B n i') :: _) rfl rfl (h_gRs (j := 6) rfl rfl rfl rfl rfl (tkS_tok hS)) rfl ?_
          refine w_m0 (pc1 := 112) (st1 := .ref 45 :: _) rfl rfl rfl rfl ?_
          refine w_an_y (A := 139) (Bn := 115) (ok_kd) (by decide) (h45) rfl rfl rfl ?_
          refine w_p (pc1 := 116) rfl rfl ?_
          refine w_p (pc1 := 117) rfl rfl ?_
          refine w_m0 (pc1 := 120) rfl rfl (h_gC rfl rfl rfl rfl) rfl ?_
          refine w_p (pc1 := 121) rfl rfl ?_
          refine w_m0 (pc1 := 124) (st1 := .int (nI (b)) :: _) rfl rfl (x_gf (k := k0) rfl A1.1 rfl) rfl ?_
          refine w_je (pc1 := 127) (vs := [.ref 106, .int (nI (b))]) (rest := [.int (nI (l.length))]) (st1 := [.int (nI (sc.2.1 b)), .int (nI (l.length))]) (hwd) rfl rfl rfl (fun _ _ => rfl) rfl (by exact cl_v my_43 rfl rfl rfl (Nat.le_of_ble_eq_true rfl) rfl (MH_obj rfl rfl) rfl (by decide) rfl rfl) (by rfl) (Nat.le_of_ble_eq_true rfl) (Nat.le_of_ble_eq_true rfl) rfl (by rfl) ?_
          refine w_t (a := 139) (b := 130) (bN_eq_t (a := l.length) (b := sc.2.1 b) (by omega) (by omega) (by omega)) rfl rfl ?_
          refine w_p (pc1 := 140) rfl rfl ?_
          refine w_m0 (pc1 := 143) rfl rfl (h_gC rfl rfl rfl rfl) rfl ?_
          refine w_m0 (pc1 := 146) (st1 := .ref 45 :: _) rfl rfl rfl rfl ?_
          refine w_je (pc1 := 149) (vs := [.ref 101, .ref 45]) (rest := []) (st1 := []) (m_38y (d := d + 55) (sl := 0) hS (by decide) h45 (by decide) (by decide)) rfl rfl rfl (fun _ _ => rfl) rfl (by exact cl_v my_38 rfl rfl rfl (Nat.le_of_ble_eq_true rfl) rfl (MH_obj rfl rfl) rfl (by decide) rfl rfl) (by rfl) (Nat.le_of_ble_eq_true rfl) (Nat.le_of_ble_eq_true rfl) rfl (by rfl) ?_
          refine w_r rfl rfl rfl (fun _ _ => rfl) rfl ?_
          refine ⟨_, i' + 1, nl', _, t', ⟨e1, rfl, ⟨hS2, by rw [nxT_fr.1 21 6 (by omega)]; exact hl', frF_t (frF_N nxT_fr) (frF_t hF (frF_N nxT_fr))⟩, ⟨fc', fs', ?_, fun j c h => (by cases h), fun j s hj => A2 j s hj (by have : j < l.length := get_lt hj; omega), A3⟩, fun j x h1 h2 h3 h => B1 j x h1 h2 h, by omega, B3, by omega, by omega⟩, ?_⟩
          · show AP t' k0 kc ks kd0 (nI b) fc' fs' (nI l.length) .null 0
            rw [show min l.length 6 = l.length by omega] at A1
            exact A1
          · with_reducible rfl
        · have e1 : rIns (tkP B n) sc tg b i nl = .inl (7, i') := e1.trans (if_neg hlw)
          have h6 := hw.2.1
          refine w_p (pc1 := 103) rfl rfl ?_
          refine w_m0 (pc1 := 106) rfl rfl (h_gC rfl rfl rfl rfl) rfl ?_
          refine w_m0 (pc1 := 109) (st1 := .ref (kd B n i') :: _) rfl rfl (h_gRs (j := 6) rfl rfl rfl rfl rfl (tkS_tok hS)) rfl ?_
          refine w_m0 (pc1 := 112) (st1 := .ref 45 :: _) rfl rfl rfl rfl ?_
          refine w_an_y (A := 139) (Bn := 115) (ok_kd) (by decide) (h45) rfl rfl rfl ?_
          refine w_p (pc1 := 116) rfl rfl ?_
          refine w_p (pc1 := 117) rfl rfl ?_
          refine w_m0 (pc1 := 120) rfl rfl (h_gC rfl rfl rfl rfl) rfl ?_
          refine w_p (pc1 := 121) rfl rfl ?_
          refine w_m0 (pc1 := 124) (st1 := .int (nI (b)) :: _) rfl rfl (x_gf (k := k0) rfl A1.1 rfl) rfl ?_
          refine w_je (pc1 := 127) (vs := [.ref 106, .int (nI (b))]) (rest := [.int (nI (l.length))]) (st1 := [.int (nI (sc.2.1 b)), .int (nI (l.length))]) (hwd) rfl rfl rfl (fun _ _ => rfl) rfl (by exact cl_v my_43 rfl rfl rfl (Nat.le_of_ble_eq_true rfl) rfl (MH_obj rfl rfl) rfl (by decide) rfl rfl) (by rfl) (Nat.le_of_ble_eq_true rfl) (Nat.le_of_ble_eq_true rfl) rfl (by rfl) ?_
          refine w_f (a := 139) (b := 130) (bN_eq_f (a := l.length) (b := sc.2.1 b) (by omega) (by omega) (by omega)) rfl rfl ?_
          refine w_p (pc1 := 131) rfl rfl ?_
          refine w_m0 (pc1 := 134) rfl rfl (h_gC rfl rfl rfl rfl) rfl ?_
          refine w_p (pc1 := 136) (st1 := .int 7 :: _) rfl rfl ?_
          refine w_ji (pc1 := 139) (vs := [.ref 101, .int 7]) (rest := []) (m_31 (d := d + 50) (sl := 0) (c := 7) hS) rfl rfl rfl (fun _ _ => rfl) rfl (by exact cl_v my_31 rfl rfl rfl (Nat.le_of_ble_eq_true rfl) rfl (MH_obj rfl rfl) rfl (by decide) rfl rfl) (by rfl) (Nat.le_of_ble_eq_true rfl) (Nat.le_of_ble_eq_true rfl) rfl (fun v h1 d1 hq => ?_) (fun a h1 d1 hq => ?_)
          · exact hq.elim
          · rcases hq with ⟨ha, hh, hn⟩
            · subst ha; subst hh; subst hn
              refine Or.inl ⟨ch_new (by decide) rfl, ?_⟩
              refine ⟨7, i', _, t', _, ⟨e1, flt_rf.1, frD_t (frD_t (frD_N nxT_fr) (frD_F hF)) flt_rf.2, fun j x h1 h2 h3 h => B1 j x h1 h2 h, by omega, B3, by omega, by omega⟩, rfl, ?_, rfl⟩
              with_reducible rfl
      · have e1 : rIns (tkP B n) sc tg b i nl = .inl (2, i') := e1.trans (if_neg h45)
        refine w_p (pc1 := 103) rfl rfl ?_
        refine w_m0 (pc1 := 106) rfl rfl (h_gC rfl rfl rfl rfl) rfl ?_
        refine w_m0 (pc1 := 109) (st1 := .ref (kd B n i') :: _) rfl rfl (h_gRs (j := 6) rfl rfl rfl rfl rfl (tkS_tok hS)) rfl ?_
        refine w_m0 (pc1 := 112) (st1 := .ref 45 :: _) rfl rfl rfl rfl ?_
        refine w_an_n (A := 139) (ok_kd) (by decide) (h45) rfl rfl ?_
        refine w_p (pc1 := 140) rfl rfl ?_
        refine w_m0 (pc1 := 143) rfl rfl (h_gC rfl rfl rfl rfl) rfl ?_
        refine w_m0 (pc1 := 146) (st1 := .ref 45 :: _) rfl rfl rfl rfl ?_
        refine w_ji (pc1 := 149) (vs := [.ref 101, .ref 45]) (rest := []) (m_38n (d := d + 49) (sl := 0) hS (by decide) h45) rfl rfl rfl (fun _ _ => rfl) rfl (by exact cl_v my_38 rfl rfl rfl (Nat.le_of_ble_eq_true rfl) rfl (MH_obj rfl rfl) rfl (by decide) rfl rfl) (by rfl) (Nat.le_of_ble_eq_true rfl) (Nat.le_of_ble_eq_true rfl) rfl (fun v h1 d1 hq => ?_) (fun a h1 d1 hq => ?_)
        · exact hq.elim
        · rcases hq with ⟨ha, hh, hn⟩
          · subst ha; subst hh; subst hn
            refine Or.inl ⟨ch_new (by decide) rfl, ?_⟩
            refine ⟨2, i', _, t', _, ⟨e1, flt_rf.1, frD_t (frD_t (frD_N nxT_fr) (frD_F hF)) flt_rf.2, fun j x h1 h2 h3 h => B1 j x h1 h2 h, by omega, B3, by omega, by omega⟩, rfl, ?_, rfl⟩
            with_reducible rfl
    have hX : ∀ (c : Int32) (j : Nat) (a : Nat) (h : ab_H) (q : Nat), rPar (fE (tkP B n) sc none tg) 601 (i + 1) nl = .inl (c, j) → XAs B n (nxT B n C i) t (i + 1) (sl + 0) k0 ks c j a h q → XAc B n C t i sl k0 kc ks (rIns (tkP B n) sc tg b i nl) a h q := by
      intro c j a h q e x
      obtain ⟨C1, t1, s1, ⟨x1, x2, ⟨x3, x4, x5, x6⟩, x7⟩, x8⟩ := x
      exact ⟨c, j, C1, t1, s1, ⟨er.trans (pb_l e), x1, frD_t (frD_N nxT_fr) x2, fun j x h1 h2 h3 h => x3 j x h1 h2 h, by omega, x5, by omega, by omega⟩, x8⟩
    have hgo := lp_86 (L := L) (xs := xs) (d := d) (B := B) (n := n) (m := m) (C0 := nxT B n C i) (t0 := t) (i0 := i + 1) (sl0 := sl + 0) (k0 := k0) (kc := kc) (ks := ks) (kd0 := kd0) (tb0 := nI b) (P := PAc B n m C t i sl k0 kc ks kd0 (nI b) (rIns (tkP B n) sc tg b i nl)) (X := XAc B n C t i sl k0 kc ks (rIns (tkP B n) sc tg b i nl)) hk hkt rfl R1 601 [] (i + 1) nl (nxT B n C i) t (sl + 0) ⟨⟨hS1, by rw [nxT_fr.1 21 6 (by omega)]; exact hl, frF_r⟩, ⟨fc, _, A, (fun j s hj => by cases hj), fun _ _ => rfl⟩, fun j x _ _ h => h, by omega, Nat.le_refl _, by omega, Nat.le_refl _, by show 0 + 1 ≤ i + 1; omega⟩ (nzp_b hz) (fun l i' nl' C' t' sl' e A' => hN l i' nl' C' t' sl' e A') (fun c j a h q e x => hX c j a h q e x)
    refine w_p (pc1 := 1) rfl rfl ?_
    refine w_m0 (pc1 := 4) rfl rfl (h_gC rfl rfl rfl rfl) rfl ?_
    refine w_m0 (pc1 := 7) (st1 := .ref 44 :: _) rfl rfl rfl rfl ?_
    refine w_je (pc1 := 10) (vs := [.ref 101, .ref 44]) (rest := []) (st1 := []) (m_38y (d := d + 55) (sl := 0) S (by decide) hk44 (by decide) (by decide)) rfl rfl rfl (fun _ _ => rfl) rfl (by exact cl_v my_38 rfl rfl rfl (Nat.le_of_ble_eq_true rfl) rfl (MH_obj rfl rfl) rfl (by decide) rfl rfl) (by rfl) (Nat.le_of_ble_eq_true rfl) (Nat.le_of_ble_eq_true rfl) rfl (by rfl) ?_
    refine w_p (pc1 := 11) (st1 := .int 0 :: _) rfl rfl ?_
    refine w_p (pc1 := 12) (al1 := [(2, .int 0), (0, .ref 120), (1, .ref (241 + k0))]) rfl rfl ?_
    refine w_p (pc1 := 13) (st1 := .int 1 :: _) rfl rfl ?_
    refine w_p (pc1 := 14) (al1 := [(3, .int 1), (2, .int 0), (0, .ref 120), (1, .ref (241 + k0))]) rfl rfl ?_
    refine w_p (pc1 := 15) (st1 := .int 0 :: _) rfl rfl ?_
    refine w_p (pc1 := 17) (al1 := [(4, .int 0), (3, .int 1), (2, .int 0), (0, .ref 120), (1, .ref (241 + k0))]) rfl rfl ?_
    exact hgo
  · have e0 : xpP (tkP B n) 44 i = .inl (2, i) := if_neg hk44
    have er : rIns (tkP B n) sc tg b i nl = .inl (2, i) := pb_l e0
    refine w_p (pc1 := 1) rfl rfl ?_
    refine w_m0 (pc1 := 4) rfl rfl (h_gC rfl rfl rfl rfl) rfl ?_
    refine w_m0 (pc1 := 7) (st1 := .ref 44 :: _) rfl rfl rfl rfl ?_
    refine w_ji (pc1 := 10) (vs := [.ref 101, .ref 44]) (rest := []) (m_38n (d := d + 49) (sl := 0) S (by decide) hk44) rfl rfl rfl (fun _ _ => rfl) rfl (by exact cl_v my_38 rfl rfl rfl (Nat.le_of_ble_eq_true rfl) rfl (MH_obj rfl rfl) rfl (by decide) rfl rfl) (by rfl) (Nat.le_of_ble_eq_true rfl) (Nat.le_of_ble_eq_true rfl) rfl (fun v h1 d1 hq => ?_) (fun a h1 d1 hq => ?_)
    · exact hq.elim
    · rcases hq with ⟨ha, hh, hn⟩
      · subst ha; subst hh; subst hn
        refine Or.inl ⟨ch_new (by decide) rfl, ?_⟩
        refine ⟨2, i, _, t, _, ⟨er, flt_rf.1, flt_rf.2, fun j x _ _ _ h => h, by omega, Nat.le_refl _, by omega, Nat.le_refl _⟩, rfl, ?_, rfl⟩
        with_reducible rfl
end INS
