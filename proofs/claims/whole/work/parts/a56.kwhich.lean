
/-! ONE SIDE: which rules are meant -/
def okN (lt : Bool) (ru : Nat → Option ru_T) (x : Int32) : Bool := decide (0 ≤ x.toInt ∧ x.toInt < 24) && (match ru x.toNatClampNeg with
  | none => false
  | some u => !lt || rLt u)
def rNum (K : tv2) (lt : Bool) (ru : Nat → Option ru_T) (i : Nat) : pz_T (Int32 × Nat) := if K.1 i = 4 then (if okN lt ru (K.2 i).toInt32 = true then .inr ((K.2 i).toInt32, i + 1) else .inl (5, i)) else .inl (2, i)
abbrev orN (a x : Int32) : Int32 := a ||| (1 <<< (x &&& 31))
def rNms (K : tv2) (lt : Bool) (ru : Nat → Option ru_T) : Nat → Int32 → Nat → pz_T (Int32 × Nat)
  | 0, a, i => .inr (a, i)
  | f + 1, a, i => pb (rNum K lt ru i) (fun x => if K.1 x.2 = 48 then rNms K lt ru f (orN a x.1) (x.2 + 1) else .inr (orN a x.1, x.2))
def rWhi (K : tv2) (lt : Bool) (ru : Nat → Option ru_T) (i : Nat) (nl : Option Nat) : pz_T (Int32 × Nat × Option Nat) := if K.1 (i + 1) = 6 then .inr (-1, i + 1 + 1, nl) else pb (rNms K lt ru 600 0 (i + 1)) (fun x => .inr (x.1, x.2, nl))
section WHI
variable {L : Nat} {xs : Nat → Int32} {B : Nat → Nat} {n m : Nat} {C C' C0 C1 : co_T} {t t0 t1 : ab_H} {d sl sl0 sl1 i i0 i1 j b e ti k k0 kc ks w c : Nat} {sc : sc_T} {row : Option Nat} {tg : Option (Nat × Nat)} {nl : Option Nat} {kd0 tb0 : Int32} {P : Option Value → ab_H → Nat → Prop} {X : Nat → ab_H → Nat → Prop} {cs : List Nat} {ss : List (Option (List op_T))} {E : fe_T} {tr : Nat → Option tr_T} {ru : Nat → Option ru_T} {vb : Nat}
def RLK (C : co_T) (t : ab_H) (ru : Nat → Option ru_T) : Prop := ∀ i, i < 24 → opK (RUK t) (C.2.2 11 i) (ru i)
set_option maxRecDepth 100000 in
theorem RLK_D (h : frD C C') (T : RLK C t ru) : RLK C' t ru := fun i hi => by
  rw [h.2.2 11 i (by omega) (by omega)]
  exact T i hi
set_option maxRecDepth 100000 in
theorem m_96_o {x : Int32} (h : ¬ (0 ≤ x.toInt ∧ x.toInt < 24)) : Wd L xs d y_96 (0, [(0, .ref 106), (1, .int x)], [], MH C t, sl) (Rt (some .null) (MH C t) sl) nX := by
  refine w_p (pc1 := 1) rfl rfl ?_
  refine w_b (a := 10) (b := 4) rfl rfl (fun c1 => ?_) (fun c1 => ?_)
  · replace c1 := ck_lt_t (n := 0) rfl c1
    refine w_p (pc1 := 11) rfl rfl ?_
    refine w_p (pc1 := 20) rfl rfl ?_
    refine w_r rfl rfl rfl (fun _ _ => rfl) rfl ?_
    exact ⟨rfl, rfl, rfl⟩
  · replace c1 := ck_lt_f (n := 0) rfl c1
    refine w_p (pc1 := 5) rfl rfl ?_
    refine w_p (pc1 := 7) (st1 := .int 24 :: _) rfl rfl ?_
    refine w_b (a := 14) (b := 10) rfl rfl (fun c7 => ?_) (fun c7 => ?_)
    · replace c7 := ck_lt_t (n := 24) rfl c7
      exact absurd ⟨by omega, by omega⟩ h
    · replace c7 := ck_lt_f (n := 24) rfl c7
      refine w_p (pc1 := 11) rfl rfl ?_
      refine w_p (pc1 := 20) rfl rfl ?_
      refine w_r rfl rfl rfl (fun _ _ => rfl) rfl ?_
      exact ⟨rfl, rfl, rfl⟩
def PNm (B : Nat → Nat) (n m : Nat) (C : co_T) (t : ab_H) (sl : Nat) (a : Int32) (r : pz_T (Int32 × Nat)) : Option Value → ab_H → Nat → Prop := fun v h q => ∃ x i' C', (r = .inr (x, i') ∧ none = v ∧ tkS B n m C' i' ∧ frN (sI C 20 7 (orN a x)) C') ∧ MH C' t = h ∧ sl = q
set_option maxRecDepth 100000 in
theorem m_95 {a : Int32} (S : tkS B n m C i) (hv : C.2.2 20 3 = some (kd B n vb)) (hr : C.1 20 7 = a) (hR : RLK C t ru) : Wd L xs (d + 8) y_95 (0, [(0, .ref 120)], [], MH C t, sl) (PNm B n m C t sl a (rNum (tkP B n) (decide (kd B n vb = 20)) ru i)) (XN B n m C t sl (rNum (tkP B n) (decide (kd B n vb = 20)) ru i)) := by
  by_cases h4 : kd B n i = 4
  · have e4 : rNum (tkP B n) (decide (kd B n vb = 20)) ru i = if okN (decide (kd B n vb = 20)) ru (vl B n i).toInt32 = true then .inr ((vl B n i).toInt32, i + 1) else .inl (5, i) := if_pos h4
    generalize hx : (vl B n i).toInt32 = x at e4
    by_cases hx24 : 0 ≤ x.toInt ∧ x.toInt < 24
    · have ok0 : okN (decide (kd B n vb = 20)) ru x = (match ru x.toNatClampNeg with
        | none => false
        | some u => !(decide (kd B n vb = 20)) || rLt u) := by
        unfold okN
        rw [decide_eq_true hx24, Bool.true_and]
      have hxk := nK_of hx24.1
      have hk24 : x.toNatClampNeg < 24 := by
        have : x.toNatClampNeg = x.toInt.toNat := rfl
        omega
      generalize x.toNatClampNeg = k at ok0 hxk hk24
      subst hxk
      have hq := hR k hk24
      cases e : ru k with
      | none =>
        rw [e] at hq ok0
        have hq : C.2.2 11 k = none := hq
        have ok0 : okN (decide (kd B n vb = 20)) ru (nI k) = false := ok0
        have er : rNum (tkP B n) (decide (kd B n vb = 20)) ru i = .inl (5, i) := e4.trans (if_neg (by rw [ok0]; decide))
        refine w_p (pc1 := 1) rfl rfl ?_
        refine w_m0 (pc1 := 4) rfl rfl (h_gC rfl rfl rfl rfl) rfl ?_
        refine w_m0 (pc1 := 7) (st1 := .long (vl B n i) :: _) rfl rfl (h_gJe (j := 8) rfl rfl rfl rfl rfl (S.2.2.2.2.2.2.2)) rfl ?_
        refine w_l2i (pc1 := 8) (z := nI (k)) rfl (hx) rfl ?_
        refine w_p (pc1 := 9) (al1 := [(1, .int (nI (k))), (0, .ref 120)]) rfl rfl ?_
        refine w_p (pc1 := 10) rfl rfl ?_
        refine w_m0 (pc1 := 13) rfl rfl (h_gC rfl rfl rfl rfl) rfl ?_
        refine w_m0 (pc1 := 16) (st1 := .ref (kd B n i) :: _) rfl rfl (h_gRs (j := 6) rfl rfl rfl rfl rfl (tkS_tok S)) rfl ?_
        refine w_m0 (pc1 := 19) (st1 := .ref 4 :: _) rfl rfl rfl rfl ?_
        refine w_an_y (A := 72) (Bn := 22) (ok_kd) (by decide) (h4) rfl rfl rfl ?_
        refine w_p (pc1 := 23) rfl rfl ?_
        refine w_m0 (pc1 := 26) rfl rfl (h_gC rfl rfl rfl rfl) rfl ?_
        refine w_p (pc1 := 27) rfl rfl ?_
        refine w_je (pc1 := 30) (vs := [.ref 106, .int (nI (k))]) (rest := []) (st1 := [.null]) (m_96_n (d := d + 7) (sl := 0) hk24 hq) rfl rfl rfl (fun _ _ => rfl) rfl (by exact cl_v my_96 rfl rfl rfl (Nat.le_of_ble_eq_true rfl) rfl (MH_obj rfl rfl) rfl (by decide) rfl rfl) (by rfl) (Nat.le_of_ble_eq_true rfl) (Nat.le_of_ble_eq_true rfl) rfl (by rfl) ?_
        refine w_p (pc1 := 31) (al1 := [(2, .null), (1, .int (nI (k))), (0, .ref 120)]) rfl rfl ?_
        refine w_p (pc1 := 32) rfl rfl ?_
        refine w_t (a := 52) (b := 35) rfl rfl rfl ?_
        refine w_p (pc1 := 53) rfl rfl ?_
        refine w_m0 (pc1 := 56) rfl rfl (h_gC rfl rfl rfl rfl) rfl ?_
        refine w_p (pc1 := 57) (st1 := .int 5 :: _) rfl rfl ?_
        refine w_ji (pc1 := 60) (vs := [.ref 101, .int 5]) (rest := []) (m_31 (d := d + 1) (sl := 0) (c := 5) S) rfl rfl rfl (fun _ _ => rfl) rfl (by exact cl_v my_31 rfl rfl rfl (Nat.le_of_ble_eq_true rfl) rfl (MH_obj rfl rfl) rfl (by decide) rfl rfl) (by rfl) (Nat.le_of_ble_eq_true rfl) (Nat.le_of_ble_eq_true rfl) rfl (fun v h1 d1 hq => ?_) (fun a h1 d1 hq => ?_)
        · exact hq.elim
        · rcases hq with ⟨ha, hh, hn⟩
          · subst ha; subst hh; subst hn
            refine Or.inl ⟨ch_new (by decide) rfl, ?_⟩
            refine ⟨5, i, ⟨er, S⟩, rfl, ?_, rfl⟩
            with_reducible rfl
      | some u =>
        rw [e] at hq ok0
        obtain ⟨kk, hq, kc, kt, fc, ft, vc, ⟨g1, g2, g3, g4, g5⟩, g6⟩ := hq
        have ok0 : okN (decide (kd B n vb = 20)) ru (nI k) = (!(decide (kd B n vb = 20)) || rLt u) := ok0
        by_cases h20 : kd B n vb = 20
        · cases hb : rLt u with
          | false =>
            have er : rNum (tkP B n) (decide (kd B n vb = 20)) ru i = .inl (5, i) := e4.trans (if_neg (by rw [ok0, decide_eq_true h20, hb]; decide))
            refine w_p (pc1 := 1) rfl rfl ?_
            refine w_m0 (pc1 := 4) rfl rfl (h_gC rfl rfl rfl rfl) rfl ?_
            refine w_m0 (pc1 := 7) (st1 := .long (vl B n i) :: _) rfl rfl (h_gJe (j := 8) rfl rfl rfl rfl rfl (S.2.2.2.2.2.2.2)) rfl ?_
            refine w_l2i (pc1 := 8) (z := nI (k)) rfl (hx) rfl ?_
            refine w_p (pc1 := 9) (al1 := [(1, .int (nI (k))), (0, .ref 120)]) rfl rfl ?_
            refine w_p (pc1 := 10) rfl rfl ?_
            refine w_m0 (pc1 := 13) rfl rfl (h_gC rfl rfl rfl rfl) rfl ?_
            refine w_m0 (pc1 := 16) (st1 := .ref (kd B n i) :: _) rfl rfl (h_gRs (j := 6) rfl rfl rfl rfl rfl (tkS_tok S)) rfl ?_
            refine w_m0 (pc1 := 19) (st1 := .ref 4 :: _) rfl rfl rfl rfl ?_
            refine w_an_y (A := 72) (Bn := 22) (ok_kd) (by decide) (h4) rfl rfl rfl ?_
            refine w_p (pc1 := 23) rfl rfl ?_
            refine w_m0 (pc1 := 26) rfl rfl (h_gC rfl rfl rfl rfl) rfl ?_
            refine w_p (pc1 := 27) rfl rfl ?_
            refine w_je (pc1 := 30) (vs := [.ref 106, .int (nI (k))]) (rest := []) (st1 := [.ref (241 + kk)]) (m_96_s (d := d + 7) (sl := 0) hk24 hq) rfl rfl rfl (fun _ _ => rfl) rfl (by exact cl_v my_96 rfl rfl rfl (Nat.le_of_ble_eq_true rfl) rfl (MH_obj rfl rfl) rfl (by decide) rfl rfl) (by rfl) (Nat.le_of_ble_eq_true rfl) (Nat.le_of_ble_eq_true rfl) rfl (by rfl) ?_
            refine w_p (pc1 := 31) (al1 := [(2, .ref (241 + kk)), (1, .int (nI (k))), (0, .ref 120)]) rfl rfl ?_
            refine w_p (pc1 := 32) rfl rfl ?_
            refine w_f (a := 52) (b := 35) rfl rfl rfl ?_
            refine w_p (pc1 := 36) rfl rfl ?_
            refine w_m0 (pc1 := 39) (st1 := .ref (kd B n vb) :: _) rfl rfl (h_gRs (j := 3) rfl rfl rfl rfl rfl (hv)) rfl ?_
            refine w_m0 (pc1 := 42) (st1 := .ref 20 :: _) rfl rfl rfl rfl ?_
            refine w_an_y (A := 60) (Bn := 45) (ok_kd) (by decide) (h20) rfl rfl rfl ?_
            refine w_p (pc1 := 46) rfl rfl ?_
            refine w_m0 (pc1 := 49) (st1 := .int (ck (rLt u)) :: _) rfl rfl (x_gf (k := kk) rfl g1 rfl) rfl ?_
            refine w_f (a := 60) (b := 52) (cb_ne_f (by rw [hb]; rfl)) rfl rfl ?_
            refine w_p (pc1 := 53) rfl rfl ?_
            refine w_m0 (pc1 := 56) rfl rfl (h_gC rfl rfl rfl rfl) rfl ?_
            refine w_p (pc1 := 57) (st1 := .int 5 :: _) rfl rfl ?_
            refine w_ji (pc1 := 60) (vs := [.ref 101, .int 5]) (rest := []) (m_31 (d := d + 1) (sl := 0) (c := 5) S) rfl rfl rfl (fun _ _ => rfl) rfl (by exact cl_v my_31 rfl rfl rfl (Nat.le_of_ble_eq_true rfl) rfl (MH_obj rfl rfl) rfl (by decide) rfl rfl) (by rfl) (Nat.le_of_ble_eq_true rfl) (Nat.le_of_ble_eq_true rfl) rfl (fun v h1 d1 hq => ?_) (fun a h1 d1 hq => ?_)
            · exact hq.elim
            · rcases hq with ⟨ha, hh, hn⟩
              · subst ha; subst hh; subst hn
                refine Or.inl ⟨ch_new (by decide) rfl, ?_⟩
                refine ⟨5, i, ⟨er, S⟩, rfl, ?_, rfl⟩
                with_reducible rfl
          | true =>
            have er : rNum (tkP B n) (decide (kd B n vb = 20)) ru i = .inr (nI k, i + 1) := e4.trans (if_pos (by rw [ok0, hb, Bool.or_true]))
            have S2 : tkS B n m (sI C 20 7 (orN a (nI k))) i := tkS_F S (fun k j h => by rw [sI_1, if_neg (by omega)]) rfl
            refine w_p (pc1 := 1) rfl rfl ?_
            refine w_m0 (pc1 := 4) rfl rfl (h_gC rfl rfl rfl rfl) rfl ?_
            refine w_m0 (pc1 := 7) (st1 := .long (vl B n i) :: _) rfl rfl (h_gJe (j := 8) rfl rfl rfl rfl rfl (S.2.2.2.2.2.2.2)) rfl ?_
            refine w_l2i (pc1 := 8) (z := nI (k)) rfl (hx) rfl ?_
            refine w_p (pc1 := 9) (al1 := [(1, .int (nI (k))), (0, .ref 120)]) rfl rfl ?_
            refine w_p (pc1 := 10) rfl rfl ?_
            refine w_m0 (pc1 := 13) rfl rfl (h_gC rfl rfl rfl rfl) rfl ?_
            refine w_m0 (pc1 := 16) (st1 := .ref (kd B n i) :: _) rfl rfl (h_gRs (j := 6) rfl rfl rfl rfl rfl (tkS_tok S)) rfl ?_
            refine w_m0 (pc1 := 19) (st1 := .ref 4 :: _) rfl rfl rfl rfl ?_
            refine w_an_y (A := 72) (Bn := 22) (ok_kd) (by decide) (h4) rfl rfl rfl ?_
            refine w_p (pc1 := 23) rfl rfl ?_
            refine w_m0 (pc1 := 26) rfl rfl (h_gC rfl rfl rfl rfl) rfl ?_
            refine w_p (pc1 := 27) rfl rfl ?_
            refine w_je (pc1 := 30) (vs := [.ref 106, .int (nI (k))]) (rest := []) (st1 := [.ref (241 + kk)]) (m_96_s (d := d + 7) (sl := 0) hk24 hq) rfl rfl rfl (fun _ _ => rfl) rfl (by exact cl_v my_96 rfl rfl rfl (Nat.le_of_ble_eq_true rfl) rfl (MH_obj rfl rfl) rfl (by decide) rfl rfl) (by rfl) (Nat.le_of_ble_eq_true rfl) (Nat.le_of_ble_eq_true rfl) rfl (by rfl) ?_
            refine w_p (pc1 := 31) (al1 := [(2, .ref (241 + kk)), (1, .int (nI (k))), (0, .ref 120)]) rfl rfl ?_
            refine w_p (pc1 := 32) rfl rfl ?_
            refine w_f (a := 52) (b := 35) rfl rfl rfl ?_
            refine w_p (pc1 := 36) rfl rfl ?_
            refine w_m0 (pc1 := 39) (st1 := .ref (kd B n vb) :: _) rfl rfl (h_gRs (j := 3) rfl rfl rfl rfl rfl (hv)) rfl ?_
            refine w_m0 (pc1 := 42) (st1 := .ref 20 :: _) rfl rfl rfl rfl ?_
            refine w_an_y (A := 60) (Bn := 45) (ok_kd) (by decide) (h20) rfl rfl rfl ?_
            refine w_p (pc1 := 46) rfl rfl ?_
            refine w_m0 (pc1 := 49) (st1 := .int (ck (rLt u)) :: _) rfl rfl (x_gf (k := kk) rfl g1 rfl) rfl ?_
            refine w_t (a := 60) (b := 52) (cb_ne_t (by rw [hb]; decide)) rfl rfl ?_
            refine w_p (pc1 := 61) rfl rfl ?_
            refine w_p (pc1 := 62) rfl rfl ?_
            refine w_m0 (pc1 := 65) (st1 := .int (a) :: _) rfl rfl (h_gIe (j := 7) rfl rfl rfl rfl rfl (hr)) rfl ?_
            refine w_p (pc1 := 66) (st1 := .int 1 :: _) rfl rfl ?_
            refine w_p (pc1 := 67) rfl rfl ?_
            refine w_p (pc1 := 68) rfl rfl ?_
            refine w_p (pc1 := 69) rfl rfl ?_
            refine w_m0 (pc1 := 72) rfl rfl (h_pI (j := 7) rfl rfl rfl rfl rfl rfl rfl ⟨rfl, rfl⟩ rfl) rfl ?_
            refine w_p (pc1 := 73) rfl rfl ?_
            refine w_m0 (pc1 := 76) rfl rfl (h_gC rfl rfl rfl rfl) rfl ?_
            refine w_m0 (pc1 := 79) (st1 := .ref 4 :: _) rfl rfl rfl rfl ?_
            refine w_je (pc1 := 82) (vs := [.ref 101, .ref 4]) (rest := []) (st1 := []) (m_38y (d := d + 6) (sl := 0) S2 (by decide) h4 (by decide) (by decide)) rfl rfl rfl (fun _ _ => rfl) rfl (by exact cl_v my_38 rfl rfl rfl (Nat.le_of_ble_eq_true rfl) rfl (MH_obj rfl rfl) rfl (by decide) rfl rfl) (by rfl) (Nat.le_of_ble_eq_true rfl) (Nat.le_of_ble_eq_true rfl) rfl (by rfl) ?_
            refine w_r rfl rfl rfl (fun _ _ => rfl) rfl ?_
            refine ⟨nI k, i + 1, nxT B n (sI C 20 7 (orN a (nI k))) i, ⟨er, rfl, nxT_S S2 (by rw [h4]; decide) (by rw [h4]; decide), nxT_fr⟩, ?_, rfl⟩
            with_reducible rfl
        · skip
          have er : rNum (tkP B n) (decide (kd B n vb = 20)) ru i = .inr (nI k, i + 1) := e4.trans (if_pos (by rw [ok0, decide_eq_false h20, Bool.not_false, Bool.true_or]))
          have S2 : tkS B n m (sI C 20 7 (orN a (nI k))) i := tkS_F S (fun k j h => by rw [sI_1, if_neg (by omega)]) rfl
          refine w_p (pc1 := 1) rfl rfl ?_
          refine w_m0 (pc1 := 4) rfl rfl (h_gC rfl rfl rfl rfl) rfl ?_
          refine w_m0 (pc1 := 7) (st1 := .long (vl B n i) :: _) rfl rfl (h_gJe (j := 8) rfl rfl rfl rfl rfl (S.2.2.2.2.2.2.2)) rfl ?_
          refine w_l2i (pc1 := 8) (z := nI (k)) rfl (hx) rfl ?_
          refine w_p (pc1 := 9) (al1 := [(1, .int (nI (k))), (0, .ref 120)]) rfl rfl ?_
          refine w_p (pc1 := 10) rfl rfl ?_
          refine w_m0 (pc1 := 13) rfl rfl (h_gC rfl rfl rfl rfl) rfl ?_
          refine w_m0 (pc1 := 16) (st1 := .ref (kd B n i) :: _) rfl rfl (h_gRs (j := 6) rfl rfl rfl rfl rfl (tkS_tok S)) rfl ?_
          refine w_m0 (pc1 := 19) (st1 := .ref 4 :: _) rfl rfl rfl rfl ?_
          refine w_an_y (A := 72) (Bn := 22) (ok_kd) (by decide) (h4) rfl rfl rfl ?_
          refine w_p (pc1 := 23) rfl rfl ?_
          refine w_m0 (pc1 := 26) rfl rfl (h_gC rfl rfl rfl rfl) rfl ?_
          refine w_p (pc1 := 27) rfl rfl ?_
          refine w_je (pc1 := 30) (vs := [.ref 106, .int (nI (k))]) (rest := []) (st1 := [.ref (241 + kk)]) (m_96_s (d := d + 7) (sl := 0) hk24 hq) rfl rfl rfl (fun _ _ => rfl) rfl (by exact cl_v my_96 rfl rfl rfl (Nat.le_of_ble_eq_true rfl) rfl (MH_obj rfl rfl) rfl (by decide) rfl rfl) (by rfl) (Nat.le_of_ble_eq_true rfl) (Nat.le_of_ble_eq_true rfl) rfl (by rfl) ?_
          refine w_p (pc1 := 31) (al1 := [(2, .ref (241 + kk)), (1, .int (nI (k))), (0, .ref 120)]) rfl rfl ?_
          refine w_p (pc1 := 32) rfl rfl ?_
          refine w_f (a := 52) (b := 35) rfl rfl rfl ?_
          refine w_p (pc1 := 36) rfl rfl ?_
          refine w_m0 (pc1 := 39) (st1 := .ref (kd B n vb) :: _) rfl rfl (h_gRs (j := 3) rfl rfl rfl rfl rfl (hv)) rfl ?_
          refine w_m0 (pc1 := 42) (st1 := .ref 20 :: _) rfl rfl rfl rfl ?_
          refine w_an_n (A := 60) (ok_kd) (by decide) (h20) rfl rfl ?_
          refine w_p (pc1 := 61) rfl rfl ?_
          refine w_p (pc1 := 62) rfl rfl ?_
          refine w_m0 (pc1 := 65) (st1 := .int (a) :: _) rfl rfl (h_gIe (j := 7) rfl rfl rfl rfl rfl (hr)) rfl ?_
          refine w_p (pc1 := 66) (st1 := .int 1 :: _) rfl rfl ?_
          refine w_p (pc1 := 67) rfl rfl ?_
          refine w_p (pc1 := 68) rfl rfl ?_
          refine w_p (pc1 := 69) rfl rfl ?_
          refine w_m0 (pc1 := 72) rfl rfl (h_pI (j := 7) rfl rfl rfl rfl rfl rfl rfl ⟨rfl, rfl⟩ rfl) rfl ?_
          refine w_p (pc1 := 73) rfl rfl ?_
          refine w_m0 (pc1 := 76) rfl rfl (h_gC rfl rfl rfl rfl) rfl ?_
          refine w_m0 (pc1 := 79) (st1 := .ref 4 :: _) rfl rfl rfl rfl ?_
          refine w_je (pc1 := 82) (vs := [.ref 101, .ref 4]) (rest := []) (st1 := []) (m_38y (d := d + 6) (sl := 0) S2 (by decide) h4 (by decide) (by decide)) rfl rfl rfl (fun _ _ => rfl) rfl (by exact cl_v my_38 rfl rfl rfl (Nat.le_of_ble_eq_true rfl) rfl (MH_obj rfl rfl) rfl (by decide) rfl rfl) (by rfl) (Nat.le_of_ble_eq_true rfl) (Nat.le_of_ble_eq_true rfl) rfl (by rfl) ?_
          refine w_r rfl rfl rfl (fun _ _ => rfl) rfl ?_
          refine ⟨nI k, i + 1, nxT B n (sI C 20 7 (orN a (nI k))) i, ⟨er, rfl, nxT_S S2 (by rw [h4]; decide) (by rw [h4]; decide), nxT_fr⟩, ?_, rfl⟩
          with_reducible rfl
    · have ok0 : okN (decide (kd B n vb = 20)) ru x = false := by
        unfold okN
        rw [decide_eq_false hx24, Bool.false_and]
      have er : rNum (tkP B n) (decide (kd B n vb = 20)) ru i = .inl (5, i) := e4.trans (if_neg (by rw [ok0]; decide))
      refine w_p (pc1 := 1) rfl rfl ?_
      refine w_m0 (pc1 := 4) rfl rfl (h_gC rfl rfl rfl rfl) rfl ?_
      refine w_m0 (pc1 := 7) (st1 := .long (vl B n i) :: _) rfl rfl (h_gJe (j := 8) rfl rfl rfl rfl rfl (S.2.2.2.2.2.2.2)) rfl ?_
      refine w_l2i (pc1 := 8) (z := x) rfl (hx) rfl ?_
      refine w_p (pc1 := 9) (al1 := [(1, .int (x)), (0, .ref 120)]) rfl rfl ?_
      refine w_p (pc1 := 10) rfl rfl ?_
      refine w_m0 (pc1 := 13) rfl rfl (h_gC rfl rfl rfl rfl) rfl ?_
      refine w_m0 (pc1 := 16) (st1 := .ref (kd B n i) :: _) rfl rfl (h_gRs (j := 6) rfl rfl rfl rfl rfl (tkS_tok S)) rfl ?_
      refine w_m0 (pc1 := 19) (st1 := .ref 4 :: _) rfl rfl rfl rfl ?_
      refine w_an_y (A := 72) (Bn := 22) (ok_kd) (by decide) (h4) rfl rfl rfl ?_
      refine w_p (pc1 := 23) rfl rfl ?_
      refine w_m0 (pc1 := 26) rfl rfl (h_gC rfl rfl rfl rfl) rfl ?_
      refine w_p (pc1 := 27) rfl rfl ?_
      refine w_je (pc1 := 30) (vs := [.ref 106, .int (x)]) (rest := []) (st1 := [.null]) (m_96_o (d := d + 7) (sl := 0) hx24) rfl rfl rfl (fun _ _ => rfl) rfl (by exact cl_v my_96 rfl rfl rfl (Nat.le_of_ble_eq_true rfl) rfl (MH_obj rfl rfl) rfl (by decide) rfl rfl) (by rfl) (Nat.le_of_ble_eq_true rfl) (Nat.le_of_ble_eq_true rfl) rfl (by rfl) ?_
      refine w_p (pc1 := 31) (al1 := [(2, .null), (1, .int (x)), (0, .ref 120)]) rfl rfl ?_
      refine w_p (pc1 := 32) rfl rfl ?_
      refine w_t (a := 52) (b := 35) rfl rfl rfl ?_
      refine w_p (pc1 := 53) rfl rfl ?_
      refine w_m0 (pc1 := 56) rfl rfl (h_gC rfl rfl rfl rfl) rfl ?_
      refine w_p (pc1 := 57) (st1 := .int 5 :: _) rfl rfl ?_
      refine w_ji (pc1 := 60) (vs := [.ref 101, .int 5]) (rest := []) (m_31 (d := d + 1) (sl := 0) (c := 5) S) rfl rfl rfl (fun _ _ => rfl) rfl (by exact cl_v my_31 rfl rfl rfl (Nat.le_of_ble_eq_true rfl) rfl (MH_obj rfl rfl) rfl (by decide) rfl rfl) (by rfl) (Nat.le_of_ble_eq_true rfl) (Nat.le_of_ble_eq_true rfl) rfl (fun v h1 d1 hq => ?_) (fun a h1 d1 hq => ?_)
      · exact hq.elim
      · rcases hq with ⟨ha, hh, hn⟩
        · subst ha; subst hh; subst hn
          refine Or.inl ⟨ch_new (by decide) rfl, ?_⟩
          refine ⟨5, i, ⟨er, S⟩, rfl, ?_, rfl⟩
          with_reducible rfl
  · have er : rNum (tkP B n) (decide (kd B n vb = 20)) ru i = .inl (2, i) := if_neg h4
    refine w_p (pc1 := 1) rfl rfl ?_
    refine w_m0 (pc1 := 4) rfl rfl (h_gC rfl rfl rfl rfl) rfl ?_
    refine w_m0 (pc1 := 7) (st1 := .long (vl B n i) :: _) rfl rfl (h_gJe (j := 8) rfl rfl rfl rfl rfl (S.2.2.2.2.2.2.2)) rfl ?_
    refine w_p (pc1 := 8) (st1 := .int ((vl B n i).toInt32) :: _) rfl rfl ?_
    refine w_p (pc1 := 9) (al1 := [(1, .int ((vl B n i).toInt32)), (0, .ref 120)]) rfl rfl ?_
    refine w_p (pc1 := 10) rfl rfl ?_
    refine w_m0 (pc1 := 13) rfl rfl (h_gC rfl rfl rfl rfl) rfl ?_
    refine w_m0 (pc1 := 16) (st1 := .ref (kd B n i) :: _) rfl rfl (h_gRs (j := 6) rfl rfl rfl rfl rfl (tkS_tok S)) rfl ?_
    refine w_m0 (pc1 := 19) (st1 := .ref 4 :: _) rfl rfl rfl rfl ?_
    refine w_an_n (A := 72) (ok_kd) (by decide) (h4) rfl rfl ?_
    refine w_p (pc1 := 73) rfl rfl ?_
    refine w_m0 (pc1 := 76) rfl rfl (h_gC rfl rfl rfl rfl) rfl ?_
    refine w_m0 (pc1 := 79) (st1 := .ref 4 :: _) rfl rfl rfl rfl ?_
    refine w_ji (pc1 := 82) (vs := [.ref 101, .ref 4]) (rest := []) (m_38n (d := d) (sl := 0) S (by decide) h4) rfl rfl rfl (fun _ _ => rfl) rfl (by exact cl_v my_38 rfl rfl rfl (Nat.le_of_ble_eq_true rfl) rfl (MH_obj rfl rfl) rfl (by decide) rfl rfl) (by rfl) (Nat.le_of_ble_eq_true rfl) (Nat.le_of_ble_eq_true rfl) rfl (fun v h1 d1 hq => ?_) (fun a h1 d1 hq => ?_)
    · exact hq.elim
    · rcases hq with ⟨ha, hh, hn⟩
      · subst ha; subst hh; subst hn
        refine Or.inl ⟨ch_new (by decide) rfl, ?_⟩
        refine ⟨2, i, ⟨er, S⟩, rfl, ?_, rfl⟩
        with_reducible rfl
set_option maxRecDepth 100000 in
theorem rNum_s {K : tv2} {lt : Bool} {i i1 : Nat} {x : Int32} (h : rNum K lt ru i = .inr (x, i1)) : i1 = i + 1 := by
  unfold rNum at h
  split at h
  · split at h
    · cases h; rfl
    · cases h
  · cases h
set_option maxRecDepth 100000 in
theorem rNum_j {K : tv2} {lt : Bool} {i j : Nat} {c : Int32} (h : rNum K lt ru i = .inl (c, j)) : j = i := by
  unfold rNum at h
  split at h
  · split at h
    · cases h
    · cases h; rfl
  · cases h; rfl
def WFr (C0 C : co_T) (t : ab_H) (nl : Option Nat) (ru : Nat → Option ru_T) : Prop := frD C0 C ∧ C.2.2 20 3 = C0.2.2 20 3 ∧ lfK (C.1 21 6) nl ∧ RLK C t ru
set_option maxRecDepth 100000 in
theorem lp_94 (hv : C0.2.2 20 3 = some (kd B n vb)) : ∀ (f p i : Nat) (a : Int32) (C : co_T) (sl : Nat), p + f = 600 → tkS B n m C i → C.1 20 7 = a → WFr C0 C t nl ru → sl ≤ sl0 → (∀ a' i' C' sl', rNms (tkP B n) (decide (kd B n vb = 20)) ru f a i = .inr (a', i') → tkS B n m C' i' → C'.1 20 7 = a' → WFr C0 C' t nl ru → i ≤ i' → sl' ≤ sl0 → P none (MH C' t) sl') → (∀ c j C' sl' a2 h q, rNms (tkP B n) (decide (kd B n vb = 20)) ru f a i = .inl (c, j) → frD C0 C' → i ≤ j → sl' ≤ sl0 → Xk 12 (rfC B n C' j c) t sl' a2 h q → X a2 h q) → Wd L xs (d + 9) y_94 (35, [(2, .int (nI p)), (1, .int 1), (0, .ref 120)], [], MH C t, sl) P X
  | 0, p, i, a, C, sl, hp, S, hr, W, hs, HN, HX => by
    refine w_p (pc1 := 36) rfl rfl ?_
    refine w_p (pc1 := 39) (st1 := .int 600 :: _) rfl rfl ?_
    refine w_t (a := 67) (b := 42) (bN_ge_t (a := p) (b := 600) (by omega) (by omega) (by omega)) rfl rfl ?_
    refine w_r rfl rfl rfl (fun _ _ => rfl) rfl ?_
    exact HN a i C _ rfl S hr W (Nat.le_refl _) hs
  | f + 1, p, i, a, C, sl, hp, S, hr, W, hs, HN, HX => by
    have hv1 := W.2.1.trans hv
    have er0 : rNms (tkP B n) (decide (kd B n vb = 20)) ru (f + 1) a i = pb (rNum (tkP B n) (decide (kd B n vb = 20)) ru i) (fun x => if (tkP B n).1 x.2 = 48 then rNms (tkP B n) (decide (kd B n vb = 20)) ru f (orN a x.1) (x.2 + 1) else .inr (orN a x.1, x.2)) := rfl
    rw [er0] at HN HX
    refine w_p (pc1 := 36) rfl rfl ?_
    refine w_p (pc1 := 39) (st1 := .int 600 :: _) rfl rfl ?_
    refine w_f (a := 67) (b := 42) (bN_ge_f (a := p) (b := 600) (by omega) (by omega) (by omega)) rfl rfl ?_
    refine w_p (pc1 := 43) rfl rfl ?_
    refine w_f (a := 67) (b := 46) rfl rfl rfl ?_
    refine w_p (pc1 := 47) rfl rfl ?_
    refine w_ji (pc1 := 50) (vs := [.ref 120]) (rest := []) (m_95 (d := d) (sl := 0) S hv1 hr W.2.2.2) rfl rfl rfl (fun _ _ => rfl) rfl (by exact cl_v my_95 rfl rfl rfl (Nat.le_of_ble_eq_true rfl) rfl (MH_obj rfl rfl) rfl (by decide) rfl rfl) (by rfl) (Nat.le_of_ble_eq_true rfl) (Nat.le_of_ble_eq_true rfl) rfl (fun v h1 d1 hq => ?_) (fun a h1 d1 hq => ?_)
    · obtain ⟨x, i1, C1, ⟨r1, hv2, r3, r4⟩, hh, hn⟩ := hq
      subst hv2; subst hh; subst hn
      obtain rfl := rNum_s r1
      rw [pb_r r1] at HN HX
      have f1 : frD C C1 := frD_t (frD_I (k := 20) (j := 7) (by omega)) (frD_N r4)
      have W1 : WFr C0 C1 t nl ru := ⟨frD_t W.1 f1, (r4.2.2 20 3 (by omega)).trans W.2.1, by rw [r4.1 21 6 (by omega), sI_1, if_neg (by omega)]; exact W.2.2.1, RLK_D f1 W.2.2.2⟩
      have a1 : C1.1 20 7 = orN a x := by rw [r4.1 20 7 (by omega), sI_1, if_pos ⟨rfl, rfl⟩]
      by_cases h48 : kd B n (i + 1) = 48
      · have h48' : (tkP B n).1 (i + 1) = 48 := h48
        rw [if_pos h48'] at HN HX
        have f2 := nxT_fr (B := B) (n := n) (C := C1) (i := i + 1)
        refine w_p (pc1 := 51) rfl rfl ?_
        refine w_m0 (pc1 := 54) rfl rfl (h_gC rfl rfl rfl rfl) rfl ?_
        refine w_m0 (pc1 := 57) (st1 := .ref 48 :: _) rfl rfl rfl rfl ?_
        refine w_je (pc1 := 60) (vs := [.ref 101, .ref 48]) (rest := []) (st1 := [.int 1]) (m_44y (d := d + 7) (sl := 0) r3 (by decide) h48 (by decide) (by decide)) rfl rfl rfl (fun _ _ => rfl) rfl (by exact cl_v my_44 rfl rfl rfl (Nat.le_of_ble_eq_true rfl) rfl (MH_obj rfl rfl) rfl (by decide) rfl rfl) (by rfl) (Nat.le_of_ble_eq_true rfl) (Nat.le_of_ble_eq_true rfl) rfl (by rfl) ?_
        refine w_p (pc1 := 61) (al1 := [(1, .int 1), (2, .int (nI (p))), (0, .ref 120)]) rfl rfl ?_
        refine w_iinc (pc1 := 64) (u := nI (p)) (z := nI (p + 1)) (al1 := [(2, .int (nI (p + 1))), (1, .int 1), (0, .ref 120)]) rfl rfl rfl nK_1 rfl rfl ?_
        refine w_p (pc1 := 35) rfl rfl ?_
        refine lp_94 hv f (p + 1) (i + 1 + 1) (orN a x) (nxT B n C1 (i + 1)) _ (by omega) (nxT_S r3 (by rw [h48]; decide) (by rw [h48]; decide)) ((f2.1 20 7 (by omega)).trans a1) ⟨frD_t W1.1 (frD_N f2), (f2.2.2 20 3 (by omega)).trans W1.2.1, by rw [f2.1 21 6 (by omega)]; exact W1.2.2.1, RLK_D (frD_N f2) W1.2.2.2⟩ (by omega) (fun a' i' C' sl' e s1 s2 s3 s4 s5 => HN a' i' C' sl' e s1 s2 s3 (by omega) s5) (fun c j C' sl' a2 h q e s1 s2 s3 s4 => HX c j C' sl' a2 h q e s1 (by omega) s3 s4)
      · have h48' : ¬ ((tkP B n).1 (i + 1) = 48) := h48
        rw [if_neg h48'] at HN
        refine w_p (pc1 := 51) rfl rfl ?_
        refine w_m0 (pc1 := 54) rfl rfl (h_gC rfl rfl rfl rfl) rfl ?_
        refine w_m0 (pc1 := 57) (st1 := .ref 48 :: _) rfl rfl rfl rfl ?_
        refine w_je (pc1 := 60) (vs := [.ref 101, .ref 48]) (rest := []) (st1 := [.int 0]) (m_44n (d := d + 8) (sl := 0) r3 (by decide) h48) rfl rfl rfl (fun _ _ => rfl) rfl (by exact cl_v my_44 rfl rfl rfl (Nat.le_of_ble_eq_true rfl) rfl (MH_obj rfl rfl) rfl (by decide) rfl rfl) (by rfl) (Nat.le_of_ble_eq_true rfl) (Nat.le_of_ble_eq_true rfl) rfl (by rfl) ?_
        refine w_p (pc1 := 61) (al1 := [(1, .int 0), (2, .int (nI (p))), (0, .ref 120)]) rfl rfl ?_
        refine w_iinc (pc1 := 64) (u := nI (p)) (z := nI (p + 1)) (al1 := [(2, .int (nI (p + 1))), (1, .int 0), (0, .ref 120)]) rfl rfl rfl nK_1 rfl rfl ?_
        refine w_p (pc1 := 35) rfl rfl ?_
        refine w_p (pc1 := 36) rfl rfl ?_
        refine w_p (pc1 := 39) (st1 := .int 600 :: _) rfl rfl ?_
        refine w_b (a := 67) (b := 42) rfl rfl (fun c39 => ?_) (fun c39 => ?_)
        · replace c39 := cN_ge_t (a := p + 1) (b := 600) (by omega) (by omega) c39
          refine w_r rfl rfl rfl (fun _ _ => rfl) rfl ?_
          exact HN (orN a x) (i + 1) C1 _ rfl r3 a1 W1 (by omega) (by omega)
        · replace c39 := cN_ge_f (a := p + 1) (b := 600) (by omega) (by omega) c39
          refine w_p (pc1 := 43) rfl rfl ?_
          refine w_t (a := 67) (b := 46) rfl rfl rfl ?_
          refine w_r rfl rfl rfl (fun _ _ => rfl) rfl ?_
          exact HN (orN a x) (i + 1) C1 _ rfl r3 a1 W1 (by omega) (by omega)
    · rcases hq with ⟨c, j, ⟨x1, x2⟩, ha, hh, hn⟩
      · subst ha; subst hh; subst hn
        refine Or.inl ⟨ch_new (by decide) rfl, ?_⟩
        refine HX c j C (sl + 0) _ _ _ (pb_l x1) W.1 (Nat.le_of_eq (rNum_j x1).symm) (by omega) ⟨rfl, ?_, by omega⟩
        with_reducible rfl
set_option maxRecDepth 100000 in
theorem m_94 (S : tkS B n m C i) (h1 : kd B n i ≠ 1) (h2 : kd B n i ≠ 2) (hl : lfK (C.1 21 6) nl) (hv : C.2.2 20 3 = some (kd B n vb)) (hR : RLK C t ru) : Wd L xs (d + 9) y_94 (0, [(0, .ref 120)], [], MH C t, sl) (PV B n m C t i sl (rWhi (tkP B n) (decide (kd B n vb = 20)) ru i nl) (fun a C' _ => C'.1 20 7 = a)) (XD B n C t i sl (rWhi (tkP B n) (decide (kd B n vb = 20)) ru i nl)) := by
  have S1 := nxT_S S h1 h2
  have f1 := nxT_fr (B := B) (n := n) (C := C) (i := i)
  have f2 : frD C (sI (nxT B n C i) 20 7 0) := frD_t (frD_N f1) (frD_I (by omega))
  have S2 : tkS B n m (sI (nxT B n C i) 20 7 0) (i + 1) := tkS_F S1 (fun k j h => by rw [sI_1, if_neg (by omega)]) rfl
  have v2 : (sI (nxT B n C i) 20 7 0).2.2 20 3 = C.2.2 20 3 := f1.2.2 20 3 (by omega)
  have l2 : lfK ((sI (nxT B n C i) 20 7 0).1 21 6) nl := by rw [sI_1, if_neg (by omega), f1.1 21 6 (by omega)]; exact hl
  have z2 : (sI (nxT B n C i) 20 7 0).1 20 7 = 0 := by rw [sI_1, if_pos ⟨rfl, rfl⟩]
  by_cases h6 : kd B n (i + 1) = 6
  · have er : rWhi (tkP B n) (decide (kd B n vb = 20)) ru i nl = .inr (-1, i + 1 + 1, nl) := if_pos h6
    have f3 := nxT_fr (B := B) (n := n) (C := sI (nxT B n C i) 20 7 0) (i := i + 1)
    refine w_p (pc1 := 1) rfl rfl ?_
    refine w_m0 (pc1 := 4) rfl rfl (h_gC rfl rfl rfl rfl) rfl ?_
    refine w_je (pc1 := 7) (vs := [.ref 101]) (rest := []) (st1 := []) (m_21s (d := d + 8) (sl := 0) S h1 h2) rfl rfl rfl (fun _ _ => rfl) rfl (by exact cl_v my_21 rfl rfl rfl (Nat.le_of_ble_eq_true rfl) rfl (MH_obj rfl rfl) rfl (by decide) rfl rfl) (by rfl) (Nat.le_of_ble_eq_true rfl) (Nat.le_of_ble_eq_true rfl) rfl (by rfl) ?_
    refine w_p (pc1 := 8) rfl rfl ?_
    refine w_p (pc1 := 9) (st1 := .int 0 :: _) rfl rfl ?_
    refine w_m0 (pc1 := 12) rfl rfl (h_pI (j := 7) rfl rfl rfl rfl rfl rfl rfl ⟨rfl, rfl⟩ rfl) rfl ?_
    refine w_p (pc1 := 13) rfl rfl ?_
    refine w_m0 (pc1 := 16) rfl rfl (h_gC rfl rfl rfl rfl) rfl ?_
    refine w_m0 (pc1 := 19) (st1 := .ref 6 :: _) rfl rfl rfl rfl ?_
    refine w_je (pc1 := 22) (vs := [.ref 101, .ref 6]) (rest := []) (st1 := [.int 1]) (m_44y (d := d + 7) (sl := 0) S2 (by decide) h6 (by decide) (by decide)) rfl rfl rfl (fun _ _ => rfl) rfl (by exact cl_v my_44 rfl rfl rfl (Nat.le_of_ble_eq_true rfl) rfl (MH_obj rfl rfl) rfl (by decide) rfl rfl) (by rfl) (Nat.le_of_ble_eq_true rfl) (Nat.le_of_ble_eq_true rfl) rfl (by rfl) ?_
    refine w_f (a := 31) (b := 25) rfl rfl rfl ?_
    refine w_p (pc1 := 26) rfl rfl ?_
    refine w_p (pc1 := 27) (st1 := .int (-1) :: _) rfl rfl ?_
    refine w_m0 (pc1 := 30) rfl rfl (h_pI (j := 7) rfl rfl rfl rfl rfl rfl rfl ⟨rfl, rfl⟩ rfl) rfl ?_
    refine w_r rfl rfl rfl (fun _ _ => rfl) rfl ?_
    refine ⟨-1, i + 1 + 1, nl, sI (nxT B n (sI (nxT B n C i) 20 7 0) (i + 1)) 20 7 (-1), t, ⟨er, rfl, ?_, ⟨tkS_F (nxT_S S2 (by rw [h6]; decide) (by rw [h6]; decide)) (fun k j h => by rw [sI_1, if_neg (by omega)]) rfl, ?_⟩, ⟨frD_t f2 (frD_t (frD_N f3) (frD_I (by omega))), (f3.2.2 20 3 (by omega)).trans v2⟩, tlE_r, by omega, by omega⟩, ?_, by omega⟩
    · show (sI (nxT B n (sI (nxT B n C i) 20 7 0) (i + 1)) 20 7 (-1)).1 20 7 = -1
      rw [sI_1, if_pos ⟨rfl, rfl⟩]
    · rw [sI_1, if_neg (by omega), f3.1 21 6 (by omega)]
      exact l2
    · with_reducible rfl
  · have er : rWhi (tkP B n) (decide (kd B n vb = 20)) ru i nl = pb (rNms (tkP B n) (decide (kd B n vb = 20)) ru 600 0 (i + 1)) (fun x => .inr (x.1, x.2, nl)) := if_neg h6
    refine w_p (pc1 := 1) rfl rfl ?_
    refine w_m0 (pc1 := 4) rfl rfl (h_gC rfl rfl rfl rfl) rfl ?_
    refine w_je (pc1 := 7) (vs := [.ref 101]) (rest := []) (st1 := []) (m_21s (d := d + 8) (sl := 0) S h1 h2) rfl rfl rfl (fun _ _ => rfl) rfl (by exact cl_v my_21 rfl rfl rfl (Nat.le_of_ble_eq_true rfl) rfl (MH_obj rfl rfl) rfl (by decide) rfl rfl) (by rfl) (Nat.le_of_ble_eq_true rfl) (Nat.le_of_ble_eq_true rfl) rfl (by rfl) ?_
    refine w_p (pc1 := 8) rfl rfl ?_
    refine w_p (pc1 := 9) (st1 := .int 0 :: _) rfl rfl ?_
    refine w_m0 (pc1 := 12) rfl rfl (h_pI (j := 7) rfl rfl rfl rfl rfl rfl rfl ⟨rfl, rfl⟩ rfl) rfl ?_
    refine w_p (pc1 := 13) rfl rfl ?_
    refine w_m0 (pc1 := 16) rfl rfl (h_gC rfl rfl rfl rfl) rfl ?_
    refine w_m0 (pc1 := 19) (st1 := .ref 6 :: _) rfl rfl rfl rfl ?_
    refine w_je (pc1 := 22) (vs := [.ref 101, .ref 6]) (rest := []) (st1 := [.int 0]) (m_44n (d := d + 8) (sl := 0) S2 (by decide) h6) rfl rfl rfl (fun _ _ => rfl) rfl (by exact cl_v my_44 rfl rfl rfl (Nat.le_of_ble_eq_true rfl) rfl (MH_obj rfl rfl) rfl (by decide) rfl rfl) (by rfl) (Nat.le_of_ble_eq_true rfl) (Nat.le_of_ble_eq_true rfl) rfl (by rfl) ?_
    refine w_t (a := 31) (b := 25) rfl rfl rfl ?_
    refine w_p (pc1 := 32) (st1 := .int 1 :: _) rfl rfl ?_
    refine w_p (pc1 := 33) (al1 := [(1, .int 1), (0, .ref 120)]) rfl rfl ?_
    refine w_p (pc1 := 34) (st1 := .int 0 :: _) rfl rfl ?_
    refine w_p (pc1 := 35) (al1 := [(2, .int 0), (1, .int 1), (0, .ref 120)]) rfl rfl ?_
    refine lp_94 (sl0 := sl) (C0 := C) (nl := nl) hv 600 0 (i + 1) 0 (sI (nxT B n C i) 20 7 0) _ rfl S2 z2 ⟨f2, v2, l2, RLK_D f2 hR⟩ (by omega) (fun a' i' C' sl' e s1 s2 s3 s4 s5 => ?_) (fun c j C' sl' a h q e s1 s2 s3 s4 => ?_)
    · refine ⟨a', i', nl, C', t, ⟨er.trans (pb_r e), rfl, s2, ⟨s1, s3.2.2.1⟩, ⟨s3.1, s3.2.1⟩, tlE_r, by omega, by omega⟩, ?_, by omega⟩
      with_reducible rfl
    · exact ⟨c, j, _, t, sl', ⟨er.trans (pb_l e), flt_rf.1, frD_t s1 flt_rf.2, ⟨tlE_r, by omega, by omega⟩, by omega⟩, s4⟩
end WHI
