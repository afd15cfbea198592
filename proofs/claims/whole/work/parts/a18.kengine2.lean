
/-! ONE SIDE'S ENGINE: tests, columns set, rows that refer -/
section KE2
variable {L : Nat} {xs : Nat → Int32} {C : co_T} {t : ab_H} {d sl D p w1 w2 w3 k k0 kc kt b c i kr kf : Nat} {S : st_T} {R N O : rw_F} {x : Int64} {l : List (Nat × Nat)} {wd : Nat → Nat} {rs : rs_T} {u : ru_T} {fc ft : Nat → Int32} {vc vw : Value} {r : ro_T}
set_option maxRecDepth 100000 in
theorem cr_ck {g : Bool} : cr (some .boolean) .ireturn 1 [.int (ck g)] = some (.returned (some (.int (ck g)))) := by cases g <;> rfl
def YR (C : co_T) (t : ab_H) (sl : Nat) (x : Option Bool) : Option Value → ab_H → Nat → Prop := fun v h m => ∃ y, x = some y ∧ some (.int (ck y)) = v ∧ (∃ t', stk t t' ∧ MH C t' = h) ∧ sl = m
def YX (C : co_T) (t : ab_H) (sl : Nat) (x : Option Bool) : Nat → ab_H → Nat → Prop := fun a h m => x = none ∧ XZ C t sl a h m
def SR (C : co_T) (t : ab_H) (sl : Nat) (x : Option (Option Int32)) : Option Value → ab_H → Nat → Prop := fun v h m => ∃ y, x = some y ∧ some (.long (e_V y)) = v ∧ (∃ t', stk t t' ∧ MH C t' = h) ∧ sl = m
def SX (C : co_T) (t : ab_H) (sl : Nat) (x : Option (Option Int32)) : Nat → ab_H → Nat → Prop := fun a h m => x = none ∧ XZ C t sl a h m
set_option maxRecDepth 100000 in
theorem smK {q : Option (List op_T)} (hE : envK C p (.ref (46 + D + 100)) (.ref (31 + D + 100)) w1 w2 w3 R N O) (K : KS C t S) (hD : D < 14) (hf : foK t 0 vw q) (ho : okS w1 w2 w3 q) : Wd L xs (d + 7) y_111 (0, [(0, .ref 124), (1, vw), (2, .int (nI p)), (3, .int (nI D))], [], MH C t, sl) (SR C t sl (smv R N O q)) (SX C t sl (smv R N O q)) := by
  cases q with
  | none =>
    have hf : vw = .null := hf
    subst hf
    refine w_p (pc1 := 1) rfl rfl ?_
    refine w_f (a := 8) (b := 4) rfl rfl rfl ?_
    refine w_m0 (pc1 := 7) (st1 := .long (-9223372036854775808) :: _) rfl rfl rfl rfl ?_
    refine w_r rfl rfl rfl (fun _ _ => rfl) rfl ?_
    exact ⟨none, rfl, rfl, ⟨t, stk_r, rfl⟩, rfl⟩
  | some Q =>
    obtain ⟨k, k1, k2, k3, s, rfl, F, h6⟩ := hf
    have e0 : smv R N O (some Q) = match f_l false R N O Q [] with | none => none | some st => (match st with | .inl v :: _ => some v | _ => some none) := rfl
    cases hv : f_l false R N O Q [] with
    | none =>
      have e1 : smv R N O (some Q) = none := by rw [e0, hv]
      rw [e1]
      exact Wd_q (m_111z hE K hD F h6 ho.2 hv) (fun _ _ _ e => e.elim) (fun a h m e => ⟨rfl, e⟩)
    | some st =>
      obtain ⟨v, hv2⟩ := fl_sum (R := R) (N := N) (O := O) ho.2
      have hv3 := fl_t Q [] st hv
      rw [hv2] at hv3
      cases hv3
      have e1 : smv R N O (some Q) = some v := by rw [e0, hv]
      rw [e1]
      exact Wd_q (m_111 hE K hD F h6 ho.2 hv) (fun _ _ _ ⟨e1, e2, e3⟩ => ⟨v, rfl, e1, e2, e3⟩) (fun _ _ _ e => e.elim)
set_option maxRecDepth 100000 in
theorem tsK {q : Option (List op_T)} (hE : envK C p (.ref (46 + D + 100)) (.ref (31 + D + 100)) w1 w2 w3 R N O) (K : KS C t S) (hD : D < 14) (hf : foK t 0 vw q) (ho : okT2 w1 w2 w3 q) : Wd L xs (d + 8) y_125 (0, [(0, .ref 124), (1, vw), (2, .int (nI p)), (3, .int (nI D))], [], MH C t, sl) (YR C t sl (tst R N O q)) (YX C t sl (tst R N O q)) := by
  cases q with
  | none =>
    have hf : vw = .null := hf
    subst hf
    refine w_p (pc1 := 1) rfl rfl ?_
    refine w_t (a := 16) (b := 4) rfl rfl rfl ?_
    refine w_p (pc1 := 17) (st1 := .int 1 :: _) rfl rfl ?_
    refine w_p (pc1 := 21) rfl rfl ?_
    refine w_r rfl rfl rfl (fun _ _ => rfl) rfl ?_
    exact ⟨true, rfl, rfl, ⟨t, stk_r, rfl⟩, rfl⟩
  | some Q =>
    obtain ⟨k, k1, k2, k3, s, rfl, F, h6⟩ := hf
    have e0 : tst R N O (some Q) = match f_l false R N O Q [] with | none => none | some st => (match st with | .inr (some true) :: _ => some true | _ => some false) := rfl
    cases hv : f_l false R N O Q [] with
    | none =>
      have e1 : tst R N O (some Q) = none := by rw [e0, hv]
      rw [e1]
      refine w_p (pc1 := 1) rfl rfl ?_
      refine w_f (a := 16) (b := 4) rfl rfl rfl ?_
      refine w_p (pc1 := 5) rfl rfl ?_
      refine w_p (pc1 := 6) rfl rfl ?_
      refine w_p (pc1 := 7) rfl rfl ?_
      refine w_p (pc1 := 8) rfl rfl ?_
      refine w_ji (pc1 := 11) (vs := [.ref 124, .ref (241 + k), .int (nI (p)), .int (nI (D))]) (rest := []) (m_111z (d := d) (sl := 0) hE K hD F h6 ho.2 hv) rfl rfl rfl (fun _ _ => rfl) rfl (by exact cl_v my_111 rfl rfl rfl (Nat.le_of_ble_eq_true rfl) rfl (MH_obj rfl rfl) rfl (by decide) rfl rfl) (by rfl) (Nat.le_of_ble_eq_true rfl) (Nat.le_of_ble_eq_true rfl) rfl (fun v h1 d1 hq => ?_) (fun a h1 d1 hq => ?_)
      · exact hq.elim
      · rcases hq with ⟨t1, hst, ha, hh, hn⟩
        · subst ha; subst hh; subst hn
          refine Or.inl ⟨ch_new (by decide) rfl, ?_⟩
          exact ⟨rfl, t1, hst, rfl, rfl, rfl⟩
    | some st =>
      obtain ⟨v, hv2⟩ := fl_test (R := R) (N := N) (O := O) ho.2
      have hv3 := fl_t Q [] st hv
      rw [hv2] at hv3
      cases hv3
      have hm := m_111 (L := L) (xs := xs) (d := d) (sl := 0) hE K hD F h6 ho.2 hv
      rcases v with _ | _ | _
      · have e1 : tst R N O (some Q) = some false := by rw [e0, hv]
        rw [e1]
        refine w_p (pc1 := 1) rfl rfl ?_
        refine w_f (a := 16) (b := 4) rfl rfl rfl ?_
        refine w_p (pc1 := 5) rfl rfl ?_
        refine w_p (pc1 := 6) rfl rfl ?_
        refine w_p (pc1 := 7) rfl rfl ?_
        refine w_p (pc1 := 8) rfl rfl ?_
        refine w_ji (pc1 := 11) (vs := [.ref 124, .ref (241 + k), .int (nI (p)), .int (nI (D))]) (rest := []) (hm) rfl rfl rfl (fun _ _ => rfl) rfl (by exact cl_v my_111 rfl rfl rfl (Nat.le_of_ble_eq_true rfl) rfl (MH_obj rfl rfl) rfl (by decide) rfl rfl) (by rfl) (Nat.le_of_ble_eq_true rfl) (Nat.le_of_ble_eq_true rfl) rfl (fun v h m hq => ?_) (fun _ _ _ e => e.elim)
        obtain ⟨rfl, ⟨t1, hst, rfl⟩, rfl⟩ := hq
        refine w_p (pc1 := 12) (st1 := .long 1 :: _) rfl rfl ?_
        refine w_p (pc1 := 13) rfl rfl ?_
        refine w_t (a := 20) (b := 16) (lb_ne_t (by decide)) rfl rfl ?_
        refine w_p (pc1 := 21) (st1 := .int 0 :: _) rfl rfl ?_
        refine w_r rfl rfl rfl (fun _ _ => rfl) rfl ?_
        exact ⟨false, rfl, rfl, ⟨t1, hst, rfl⟩, rfl⟩
      · have e1 : tst R N O (some Q) = some false := by rw [e0, hv]
        rw [e1]
        refine w_p (pc1 := 1) rfl rfl ?_
        refine w_f (a := 16) (b := 4) rfl rfl rfl ?_
        refine w_p (pc1 := 5) rfl rfl ?_
        refine w_p (pc1 := 6) rfl rfl ?_
        refine w_p (pc1 := 7) rfl rfl ?_
        refine w_p (pc1 := 8) rfl rfl ?_
        refine w_ji (pc1 := 11) (vs := [.ref 124, .ref (241 + k), .int (nI (p)), .int (nI (D))]) (rest := []) (hm) rfl rfl rfl (fun _ _ => rfl) rfl (by exact cl_v my_111 rfl rfl rfl (Nat.le_of_ble_eq_true rfl) rfl (MH_obj rfl rfl) rfl (by decide) rfl rfl) (by rfl) (Nat.le_of_ble_eq_true rfl) (Nat.le_of_ble_eq_true rfl) rfl (fun v h m hq => ?_) (fun _ _ _ e => e.elim)
        obtain ⟨rfl, ⟨t1, hst, rfl⟩, rfl⟩ := hq
        refine w_p (pc1 := 12) (st1 := .long 1 :: _) rfl rfl ?_
        refine w_p (pc1 := 13) rfl rfl ?_
        refine w_t (a := 20) (b := 16) (lb_ne_t (by decide)) rfl rfl ?_
        refine w_p (pc1 := 21) (st1 := .int 0 :: _) rfl rfl ?_
        refine w_r rfl rfl rfl (fun _ _ => rfl) rfl ?_
        exact ⟨false, rfl, rfl, ⟨t1, hst, rfl⟩, rfl⟩
      · have e1 : tst R N O (some Q) = some true := by rw [e0, hv]
        rw [e1]
        refine w_p (pc1 := 1) rfl rfl ?_
        refine w_f (a := 16) (b := 4) rfl rfl rfl ?_
        refine w_p (pc1 := 5) rfl rfl ?_
        refine w_p (pc1 := 6) rfl rfl ?_
        refine w_p (pc1 := 7) rfl rfl ?_
        refine w_p (pc1 := 8) rfl rfl ?_
        refine w_ji (pc1 := 11) (vs := [.ref 124, .ref (241 + k), .int (nI (p)), .int (nI (D))]) (rest := []) (hm) rfl rfl rfl (fun _ _ => rfl) rfl (by exact cl_v my_111 rfl rfl rfl (Nat.le_of_ble_eq_true rfl) rfl (MH_obj rfl rfl) rfl (by decide) rfl rfl) (by rfl) (Nat.le_of_ble_eq_true rfl) (Nat.le_of_ble_eq_true rfl) rfl (fun v h m hq => ?_) (fun _ _ _ e => e.elim)
        obtain ⟨rfl, ⟨t1, hst, rfl⟩, rfl⟩ := hq
        refine w_p (pc1 := 12) (st1 := .long 1 :: _) rfl rfl ?_
        refine w_p (pc1 := 13) rfl rfl ?_
        refine w_f (a := 20) (b := 16) (lb_ne_f (by rfl)) rfl rfl ?_
        refine w_p (pc1 := 17) (st1 := .int 1 :: _) rfl rfl ?_
        refine w_p (pc1 := 21) rfl rfl ?_
        refine w_r rfl rfl rfl (fun _ _ => rfl) rfl ?_
        exact ⟨true, rfl, rfl, ⟨t1, hst, rfl⟩, rfl⟩
set_option maxRecDepth 100000 in
theorem lp_139 (hk : SK[kr]? = some (1, 1, 6, l)) (W : RWK C wd rs) (U : RUo t k0 kc kt u fc ft vc) (hR : okR wd u) (hK : rKd u = 4) (hb1 : rTg u = some b) (h6b : wd b ≤ 6) (hB : bfK C kr (wd b) O) (hr : (rs (rTb u)).1[k]? = some r) : ∀ suf pre sufe pree : List Nat, pre ++ suf = rCs u → pree ++ sufe = rOs u → pree.length = pre.length → Wd L xs (d + 2) y_139 (3, [(4, .int (nI (pre.length))), (0, .ref (241 + k0)), (1, .ref 113), (2, .int (nI (k))), (3, .ref (kr + 100))], [], MH C t, sl) (Rt (some (.int (ck (alk suf sufe r.2 O)))) (MH C t) sl) nX
  | [], pre, sufe, pree, hp, hpe, hpl => by
    rw [List.append_nil] at hp
    have hl2 := congrArg List.length hp
    obtain ⟨⟨b9, hb9, hb2, hb3⟩, hll⟩ := hR.2.1 hK
    rw [hb1] at hb9
    cases hb9
    have h6 := hR.1.2.2.1
    have hkk := get_lt hr
    have h40 := (W _ hR.1.2.1).2.2.1
    have e0 : alk [] sufe r.2 O = true := by unfold alk; rfl
    rw [e0]
    refine w_p (pc1 := 5) rfl rfl ?_
    refine w_p (pc1 := 6) rfl rfl ?_
    refine w_m0 (pc1 := 9) (st1 := .int (nI ((rCs u).length)) :: _) rfl rfl (x_gf (k := k0) rfl U.1 rfl) rfl ?_
    refine w_t (a := 85) (b := 12) (bN_ge_t (a := pre.length) (b := (rCs u).length) (by omega) (by omega) (by omega)) rfl rfl ?_
    refine w_p (pc1 := 86) (st1 := .int 1 :: _) rfl rfl ?_
    refine w_r rfl rfl rfl (fun _ _ => rfl) rfl ?_
    exact ⟨rfl, rfl, rfl⟩
  | c :: suf, pre, [], pree, hp, hpe, hpl => by
    obtain ⟨h1, h2, h3⟩ := get_ap hp
    obtain ⟨_, hll⟩ := hR.2.1 hK
    rw [List.append_nil] at hpe
    subst hpe
    omega
  | c :: suf, pre, e :: sufe, pree, hp, hpe, hpl => by
    obtain ⟨h1, h2, h3⟩ := get_ap hp
    obtain ⟨g1, g2, g3⟩ := get_ap hpe
    obtain ⟨⟨b9, hb9, hb2, hb3⟩, hll⟩ := hR.2.1 hK
    rw [hb1] at hb9
    cases hb9
    have h6 := hR.1.2.2.1
    have hkk := get_lt hr
    have h40 := (W _ hR.1.2.1).2.2.1
    have hf := U.2.2.2.1 _ _ h1
    have hf2 := U.2.2.2.2 _ _ g1
    rw [hpl] at hf2
    rw [Nat.zero_add] at hf hf2
    have hcw := hR.1.2.2.2 c (List.mem_of_getElem? h1)
    have hew := hb3 e (List.mem_of_getElem? g1)
    have hm := cellK (L := L) (xs := xs) (t := t) (d := d) (sl := 0) W hR.1.2.1 hr hcw
    have hv := hB e hew
    by_cases hx : r.2 c = O e
    · have e0 : alk (c :: suf) (e :: sufe) r.2 O = alk suf sufe r.2 O := by
        show (decide (r.2 c = O e) && alk suf sufe r.2 O) = _
        rw [decide_eq_true hx, Bool.true_and]
      rw [e0]
      refine w_p (pc1 := 5) rfl rfl ?_
      refine w_p (pc1 := 6) rfl rfl ?_
      refine w_m0 (pc1 := 9) (st1 := .int (nI ((rCs u).length)) :: _) rfl rfl (x_gf (k := k0) rfl U.1 rfl) rfl ?_
      refine w_f (a := 85) (b := 12) (bN_ge_f (a := pre.length) (b := (rCs u).length) (by omega) (by omega) (by omega)) rfl rfl ?_
      refine w_p (pc1 := 14) rfl rfl ?_
      refine w_p (pc1 := 15) rfl rfl ?_
      refine w_m0 (pc1 := 18) (st1 := .ref (241 + kc) :: _) rfl rfl (x_gf (k := k0) rfl U.1 rfl) rfl ?_
      refine w_m0 (pc1 := 19) (st1 := .int (nI (6)) :: _) rfl rfl (x_ln (k := kc) U.2.1 (by decide)) rfl ?_
      refine w_f (a := 85) (b := 22) (bN_ge_f (a := pre.length) (b := 6) (by omega) (by omega) (by omega)) rfl rfl ?_
      refine w_p (pc1 := 24) rfl rfl ?_
      refine w_p (pc1 := 25) rfl rfl ?_
      refine w_m0 (pc1 := 28) (st1 := .ref (241 + kt) :: _) rfl rfl (x_gf (k := k0) rfl U.1 rfl) rfl ?_
      refine w_m0 (pc1 := 29) (st1 := .int (nI (6)) :: _) rfl rfl (x_ln (k := kt) U.2.2.1 (by decide)) rfl ?_
      refine w_f (a := 85) (b := 32) (bN_ge_f (a := pre.length) (b := 6) (by omega) (by omega) (by omega)) rfl rfl ?_
      refine w_p (pc1 := 33) rfl rfl ?_
      refine w_m0 (pc1 := 36) (st1 := .ref (241 + kt) :: _) rfl rfl (x_gf (k := k0) rfl U.1 rfl) rfl ?_
      refine w_p (pc1 := 38) rfl rfl ?_
      refine w_m0 (pc1 := 39) (st1 := .int (nI (e)) :: _) rfl rfl (x_ile (k := kt) (e := pre.length) U.2.2.1 (by omega) (by omega) (hf2)) rfl ?_
      refine w_p (pc1 := 41) (al1 := [(5, .int (nI (e))), (4, .int (nI (pre.length))), (0, .ref (241 + k0)), (1, .ref 113), (2, .int (nI (k))), (3, .ref (kr + 100))]) rfl rfl ?_
      refine w_p (pc1 := 43) rfl rfl ?_
      refine w_f (a := 77) (b := 46) (bN_lt_f (a := e) (b := 0) (by omega) (by omega) (by omega)) rfl rfl ?_
      refine w_p (pc1 := 48) rfl rfl ?_
      refine w_p (pc1 := 49) rfl rfl ?_
      refine w_m0 (pc1 := 50) (st1 := .int (nI (6)) :: _) rfl rfl (h_lnJ (k := kr) rfl hk (by decide)) rfl ?_
      refine w_f (a := 77) (b := 53) (bN_ge_f (a := e) (b := 6) (by omega) (by omega) (by omega)) rfl rfl ?_
      refine w_p (pc1 := 54) rfl rfl ?_
      refine w_p (pc1 := 55) rfl rfl ?_
      refine w_m0 (pc1 := 58) (st1 := .int (nI (rTb u)) :: _) rfl rfl (x_gf (k := k0) rfl U.1 rfl) rfl ?_
      refine w_p (pc1 := 59) rfl rfl ?_
      refine w_p (pc1 := 60) rfl rfl ?_
      refine w_m0 (pc1 := 63) (st1 := .ref (241 + kc) :: _) rfl rfl (x_gf (k := k0) rfl U.1 rfl) rfl ?_
      refine w_p (pc1 := 65) rfl rfl ?_
      refine w_m0 (pc1 := 66) (st1 := .int (nI (c)) :: _) rfl rfl (x_ile (k := kc) (e := pre.length) U.2.1 (by omega) (by omega) (hf)) rfl ?_
      refine w_je (pc1 := 69) (vs := [.ref 113, .int (nI (rTb u)), .int (nI (k)), .int (nI (c))]) (rest := []) (st1 := [.long (e_V (r.2 c))]) (hm) rfl rfl rfl (fun _ _ => rfl) rfl (by exact cl_v my_140 rfl rfl rfl (Nat.le_of_ble_eq_true rfl) rfl (MH_obj rfl rfl) rfl (by decide) rfl rfl) (by rfl) (Nat.le_of_ble_eq_true rfl) (Nat.le_of_ble_eq_true rfl) rfl (by rfl) ?_
      refine w_p (pc1 := 70) rfl rfl ?_
      refine w_p (pc1 := 72) rfl rfl ?_
      refine w_m0 (pc1 := 73) (st1 := .long (e_V (O e)) :: _) rfl rfl (n_lle (k := kr) (e := e) rfl hk rfl (by omega) (hv)) rfl ?_
      refine w_p (pc1 := 74) rfl rfl ?_
      refine w_t (a := 79) (b := 77) (lb_eq_t (by rw [hx])) rfl rfl ?_
      refine w_iinc (pc1 := 82) (u := nI (pre.length)) (z := nI (pre.length + 1)) (al1 := [(4, .int (nI (pre.length + 1))), (5, .int (nI (e))), (0, .ref (241 + k0)), (1, .ref 113), (2, .int (nI (k))), (3, .ref (kr + 100))]) rfl rfl rfl nK_1 rfl rfl ?_
      refine w_p (pc1 := 3) rfl rfl ?_
      refine Wd_al (al := [(4, .int (nI (pre.length + 1))), (0, .ref (241 + k0)), (1, .ref 113), (2, .int (nI (k))), (3, .ref (kr + 100))]) (sba_p [0, 2, 3, 4, 5] rfl rfl) ?_
      have := lp_139 hk W U hR hK hb1 h6b hB hr suf (pre ++ [c]) sufe (pree ++ [e]) h3 g3 (by rw [len_s, len_s, hpl])
      rw [len_s] at this
      exact this
    · have e0 : alk (c :: suf) (e :: sufe) r.2 O = false := by
        show (decide (r.2 c = O e) && alk suf sufe r.2 O) = _
        rw [decide_eq_false hx, Bool.false_and]
      rw [e0]
      refine w_p (pc1 := 5) rfl rfl ?_
      refine w_p (pc1 := 6) rfl rfl ?_
      refine w_m0 (pc1 := 9) (st1 := .int (nI ((rCs u).length)) :: _) rfl rfl (x_gf (k := k0) rfl U.1 rfl) rfl ?_
      refine w_f (a := 85) (b := 12) (bN_ge_f (a := pre.length) (b := (rCs u).length) (by omega) (by omega) (by omega)) rfl rfl ?_
      refine w_p (pc1 := 14) rfl rfl ?_
      refine w_p (pc1 := 15) rfl rfl ?_
      refine w_m0 (pc1 := 18) (st1 := .ref (241 + kc) :: _) rfl rfl (x_gf (k := k0) rfl U.1 rfl) rfl ?_
      refine w_m0 (pc1 := 19) (st1 := .int (nI (6)) :: _) rfl rfl (x_ln (k := kc) U.2.1 (by decide)) rfl ?_
      refine w_f (a := 85) (b := 22) (bN_ge_f (a := pre.length) (b := 6) (by omega) (by omega) (by omega)) rfl rfl ?_
      refine w_p (pc1 := 24) rfl rfl ?_
      refine w_p (pc1 := 25) rfl rfl ?_
      refine w_m0 (pc1 := 28) (st1 := .ref (241 + kt) :: _) rfl rfl (x_gf (k := k0) rfl U.1 rfl) rfl ?_
      refine w_m0 (pc1 := 29) (st1 := .int (nI (6)) :: _) rfl rfl (x_ln (k := kt) U.2.2.1 (by decide)) rfl ?_
      refine w_f (a := 85) (b := 32) (bN_ge_f (a := pre.length) (b := 6) (by omega) (by omega) (by omega)) rfl rfl ?_
      refine w_p (pc1 := 33) rfl rfl ?_
      refine w_m0 (pc1 := 36) (st1 := .ref (241 + kt) :: _) rfl rfl (x_gf (k := k0) rfl U.1 rfl) rfl ?_
      refine w_p (pc1 := 38) rfl rfl ?_
      refine w_m0 (pc1 := 39) (st1 := .int (nI (e)) :: _) rfl rfl (x_ile (k := kt) (e := pre.length) U.2.2.1 (by omega) (by omega) (hf2)) rfl ?_
      refine w_p (pc1 := 41) (al1 := [(5, .int (nI (e))), (4, .int (nI (pre.length))), (0, .ref (241 + k0)), (1, .ref 113), (2, .int (nI (k))), (3, .ref (kr + 100))]) rfl rfl ?_
      refine w_p (pc1 := 43) rfl rfl ?_
      refine w_f (a := 77) (b := 46) (bN_lt_f (a := e) (b := 0) (by omega) (by omega) (by omega)) rfl rfl ?_
      refine w_p (pc1 := 48) rfl rfl ?_
      refine w_p (pc1 := 49) rfl rfl ?_
      refine w_m0 (pc1 := 50) (st1 := .int (nI (6)) :: _) rfl rfl (h_lnJ (k := kr) rfl hk (by decide)) rfl ?_
      refine w_f (a := 77) (b := 53) (bN_ge_f (a := e) (b := 6) (by omega) (by omega) (by omega)) rfl rfl ?_
      refine w_p (pc1 := 54) rfl rfl ?_
      refine w_p (pc1 := 55) rfl rfl ?_
      refine w_m0 (pc1 := 58) (st1 := .int (nI (rTb u)) :: _) rfl rfl (x_gf (k := k0) rfl U.1 rfl) rfl ?_
      refine w_p (pc1 := 59) rfl rfl ?_
      refine w_p (pc1 := 60) rfl rfl ?_
      refine w_m0 (pc1 := 63) (st1 := .ref (241 + kc) :: _) rfl rfl (x_gf (k := k0) rfl U.1 rfl) rfl ?_
      refine w_p (pc1 := 65) rfl rfl ?_
      refine w_m0 (pc1 := 66) (st1 := .int (nI (c)) :: _) rfl rfl (x_ile (k := kc) (e := pre.length) U.2.1 (by omega) (by omega) (hf)) rfl ?_
      refine w_je (pc1 := 69) (vs := [.ref 113, .int (nI (rTb u)), .int (nI (k)), .int (nI (c))]) (rest := []) (st1 := [.long (e_V (r.2 c))]) (hm) rfl rfl rfl (fun _ _ => rfl) rfl (by exact cl_v my_140 rfl rfl rfl (Nat.le_of_ble_eq_true rfl) rfl (MH_obj rfl rfl) rfl (by decide) rfl rfl) (by rfl) (Nat.le_of_ble_eq_true rfl) (Nat.le_of_ble_eq_true rfl) rfl (by rfl) ?_
      refine w_p (pc1 := 70) rfl rfl ?_
      refine w_p (pc1 := 72) rfl rfl ?_
      refine w_m0 (pc1 := 73) (st1 := .long (e_V (O e)) :: _) rfl rfl (n_lle (k := kr) (e := e) rfl hk rfl (by omega) (hv)) rfl ?_
      refine w_p (pc1 := 74) rfl rfl ?_
      refine w_f (a := 79) (b := 77) (lb_eq_f (by exact fun z => hx (e_V_inj z))) rfl rfl ?_
      refine w_p (pc1 := 78) (st1 := .int 0 :: _) rfl rfl ?_
      refine w_r rfl rfl rfl (fun _ _ => rfl) rfl ?_
      exact ⟨rfl, rfl, rfl⟩
set_option maxRecDepth 100000 in
theorem m_139 (hk : SK[kr]? = some (1, 1, 6, l)) (W : RWK C wd rs) (U : RUo t k0 kc kt u fc ft vc) (hR : okR wd u) (hK : rKd u = 4) (hb1 : rTg u = some b) (h6b : wd b ≤ 6) (hB : bfK C kr (wd b) O) (hr : (rs (rTb u)).1[k]? = some r) : Wd L xs (d + 2) y_139 (0, [(0, .ref (241 + k0)), (1, .ref 113), (2, .int (nI (k))), (3, .ref (kr + 100))], [], MH C t, sl) (Rt (some (.int (ck (rfg u O r)))) (MH C t) sl) nX := by
  refine w_p (pc1 := 1) (st1 := .int 0 :: _) rfl rfl ?_
  refine w_p (pc1 := 3) (al1 := [(4, .int 0), (0, .ref (241 + k0)), (1, .ref 113), (2, .int (nI (k))), (3, .ref (kr + 100))]) rfl rfl ?_
  exact lp_139 hk W U hR hK hb1 h6b hB hr (rCs u) [] (rOs u) [] rfl rfl rfl
set_option maxRecDepth 100000 in
theorem lp_137d (hk : SK[kr]? = some (1, 1, 6, l)) (U : RUo t k0 kc kt u fc ft vc) (hR : okR wd u) (hK : rKd u = 4) (hb1 : rTg u = some b) (h6b : wd b ≤ 6) (hB : bfK C kr (wd b) O) : ∀ (suf pre : List Nat) (g : Bool), pre ++ suf = rOs u → Wd L xs d y_137 (13, [(4, .int (nI (pre.length))), (3, .int (ck g)), (0, .ref (241 + k0)), (1, .ref (kr + 100)), (2, .null)], [], MH C t, sl) (Rt (some (.int (ck (!nul suf O && g)))) (MH C t) sl) nX
  | [], pre, g, hp => by
    rw [List.append_nil] at hp
    have hl2 := congrArg List.length hp
    obtain ⟨⟨b9, hb9, hb2, hb3⟩, hll⟩ := hR.2.1 hK
    rw [hb1] at hb9
    cases hb9
    have h6 := hR.1.2.2.1
    have e0 : (!nul [] O && g) = g := by cases g <;> rfl
    rw [e0]
    refine w_p (pc1 := 15) rfl rfl ?_
    refine w_p (pc1 := 16) rfl rfl ?_
    refine w_m0 (pc1 := 19) (st1 := .int (nI ((rCs u).length)) :: _) rfl rfl (x_gf (k := k0) rfl U.1 rfl) rfl ?_
    refine w_t (a := 103) (b := 22) (bN_ge_t (a := pre.length) (b := (rCs u).length) (by omega) (by omega) (by omega)) rfl rfl ?_
    refine w_p (pc1 := 104) rfl rfl ?_
    refine w_r rfl rfl rfl (fun _ _ => rfl) cr_ck ?_
    exact ⟨rfl, rfl, rfl⟩
  | c :: suf, pre, g, hp => by
    obtain ⟨h1, h2, h3⟩ := get_ap hp
    obtain ⟨⟨b9, hb9, hb2, hb3⟩, hll⟩ := hR.2.1 hK
    rw [hb1] at hb9
    cases hb9
    have h6 := hR.1.2.2.1
    have hf := U.2.2.2.2 _ _ h1
    rw [Nat.zero_add] at hf
    have hew := hb3 c (List.mem_of_getElem? h1)
    have hv := hB c hew
    have ih := fun g' => lp_137d hk U hR hK hb1 h6b hB suf (pre ++ [c]) g' h3
    rw [len_s] at ih
    have en : nul (c :: suf) O = (decide (O c = none) || nul suf O) := rfl
    cases hx : O c with
    | none =>
      have e0 : (!nul (c :: suf) O && g) = false := by rw [en, hx]; rfl
      rw [e0]
      rw [hx] at hv
      refine w_p (pc1 := 15) rfl rfl ?_
      refine w_p (pc1 := 16) rfl rfl ?_
      refine w_m0 (pc1 := 19) (st1 := .int (nI ((rCs u).length)) :: _) rfl rfl (x_gf (k := k0) rfl U.1 rfl) rfl ?_
      refine w_f (a := 103) (b := 22) (bN_ge_f (a := pre.length) (b := (rCs u).length) (by omega) (by omega) (by omega)) rfl rfl ?_
      refine w_p (pc1 := 24) rfl rfl ?_
      refine w_p (pc1 := 25) rfl rfl ?_
      refine w_m0 (pc1 := 28) (st1 := .ref (241 + kt) :: _) rfl rfl (x_gf (k := k0) rfl U.1 rfl) rfl ?_
      refine w_m0 (pc1 := 29) (st1 := .int (nI (6)) :: _) rfl rfl (x_ln (k := kt) U.2.2.1 (by decide)) rfl ?_
      refine w_f (a := 103) (b := 32) (bN_ge_f (a := pre.length) (b := 6) (by omega) (by omega) (by omega)) rfl rfl ?_
      refine w_p (pc1 := 33) rfl rfl ?_
      refine w_m0 (pc1 := 36) (st1 := .ref (241 + kt) :: _) rfl rfl (x_gf (k := k0) rfl U.1 rfl) rfl ?_
      refine w_p (pc1 := 38) rfl rfl ?_
      refine w_m0 (pc1 := 39) (st1 := .int (nI (c)) :: _) rfl rfl (x_ile (k := kt) (e := pre.length) U.2.2.1 (by omega) (by omega) (hf)) rfl ?_
      refine w_p (pc1 := 41) (al1 := [(5, .int (nI (c))), (4, .int (nI (pre.length))), (3, .int (ck g)), (0, .ref (241 + k0)), (1, .ref (kr + 100)), (2, .null)]) rfl rfl ?_
      refine w_p (pc1 := 43) rfl rfl ?_
      refine w_f (a := 64) (b := 46) (bN_lt_f (a := c) (b := 0) (by omega) (by omega) (by omega)) rfl rfl ?_
      refine w_p (pc1 := 48) rfl rfl ?_
      refine w_p (pc1 := 49) rfl rfl ?_
      refine w_m0 (pc1 := 50) (st1 := .int (nI (6)) :: _) rfl rfl (h_lnJ (k := kr) rfl hk (by decide)) rfl ?_
      refine w_f (a := 64) (b := 53) (bN_ge_f (a := c) (b := 6) (by omega) (by omega) (by omega)) rfl rfl ?_
      refine w_p (pc1 := 54) rfl rfl ?_
      refine w_p (pc1 := 56) rfl rfl ?_
      refine w_m0 (pc1 := 57) (st1 := .long (e_V none) :: _) rfl rfl (n_lle (k := kr) (e := c) rfl hk rfl (by omega) (hv)) rfl ?_
      refine w_m0 (pc1 := 60) (st1 := .long (-9223372036854775808) :: _) rfl rfl rfl rfl ?_
      refine w_p (pc1 := 61) rfl rfl ?_
      refine w_f (a := 66) (b := 64) (lb_ne_f (by rfl)) rfl rfl ?_
      refine w_p (pc1 := 65) (st1 := .int 0 :: _) rfl rfl ?_
      refine w_r rfl rfl rfl (fun _ _ => rfl) rfl ?_
      exact ⟨rfl, rfl, rfl⟩
    | some x =>
      rw [hx] at hv

      have e0 : (!nul (c :: suf) O && g) = (!nul suf O && g) := by rw [en, hx, decide_eq_false (by intro z; cases z), Bool.false_or]
      rw [e0]
      refine w_p (pc1 := 15) rfl rfl ?_
      refine w_p (pc1 := 16) rfl rfl ?_
      refine w_m0 (pc1 := 19) (st1 := .int (nI ((rCs u).length)) :: _) rfl rfl (x_gf (k := k0) rfl U.1 rfl) rfl ?_
      refine w_f (a := 103) (b := 22) (bN_ge_f (a := pre.length) (b := (rCs u).length) (by omega) (by omega) (by omega)) rfl rfl ?_
      refine w_p (pc1 := 24) rfl rfl ?_
      refine w_p (pc1 := 25) rfl rfl ?_
      refine w_m0 (pc1 := 28) (st1 := .ref (241 + kt) :: _) rfl rfl (x_gf (k := k0) rfl U.1 rfl) rfl ?_
      refine w_m0 (pc1 := 29) (st1 := .int (nI (6)) :: _) rfl rfl (x_ln (k := kt) U.2.2.1 (by decide)) rfl ?_
      refine w_f (a := 103) (b := 32) (bN_ge_f (a := pre.length) (b := 6) (by omega) (by omega) (by omega)) rfl rfl ?_
      refine w_p (pc1 := 33) rfl rfl ?_
      refine w_m0 (pc1 := 36) (st1 := .ref (241 + kt) :: _) rfl rfl (x_gf (k := k0) rfl U.1 rfl) rfl ?_
      refine w_p (pc1 := 38) rfl rfl ?_
      refine w_m0 (pc1 := 39) (st1 := .int (nI (c)) :: _) rfl rfl (x_ile (k := kt) (e := pre.length) U.2.2.1 (by omega) (by omega) (hf)) rfl ?_
      refine w_p (pc1 := 41) (al1 := [(5, .int (nI (c))), (4, .int (nI (pre.length))), (3, .int (ck g)), (0, .ref (241 + k0)), (1, .ref (kr + 100)), (2, .null)]) rfl rfl ?_
      refine w_p (pc1 := 43) rfl rfl ?_
      refine w_f (a := 64) (b := 46) (bN_lt_f (a := c) (b := 0) (by omega) (by omega) (by omega)) rfl rfl ?_
      refine w_p (pc1 := 48) rfl rfl ?_
      refine w_p (pc1 := 49) rfl rfl ?_
      refine w_m0 (pc1 := 50) (st1 := .int (nI (6)) :: _) rfl rfl (h_lnJ (k := kr) rfl hk (by decide)) rfl ?_
      refine w_f (a := 64) (b := 53) (bN_ge_f (a := c) (b := 6) (by omega) (by omega) (by omega)) rfl rfl ?_
      refine w_p (pc1 := 54) rfl rfl ?_
      refine w_p (pc1 := 56) rfl rfl ?_
      refine w_m0 (pc1 := 57) (st1 := .long (e_V (some x)) :: _) rfl rfl (n_lle (k := kr) (e := c) rfl hk rfl (by omega) (hv)) rfl ?_
      refine w_m0 (pc1 := 60) (st1 := .long (-9223372036854775808) :: _) rfl rfl rfl rfl ?_
      refine w_p (pc1 := 61) rfl rfl ?_
      refine w_t (a := 66) (b := 64) (lb_ne_t (by exact e_V_ne x)) rfl rfl ?_
      refine w_p (pc1 := 67) rfl rfl ?_
      refine w_p (pc1 := 68) rfl rfl ?_
      refine w_t (a := 94) (b := 71) rfl rfl rfl ?_
      refine w_p (pc1 := 95) (st1 := .int 0 :: _) rfl rfl ?_
      refine w_ior (pc1 := 96) (z := ck g) rfl (by cases g <;> rfl) rfl ?_
      refine w_p (pc1 := 97) (al1 := [(3, .int (ck g)), (5, .int (nI (c))), (4, .int (nI (pre.length))), (0, .ref (241 + k0)), (1, .ref (kr + 100)), (2, .null)]) rfl rfl ?_
      refine w_iinc (pc1 := 100) (u := nI (pre.length)) (z := nI (pre.length + 1)) (al1 := [(4, .int (nI (pre.length + 1))), (3, .int (ck g)), (5, .int (nI (c))), (0, .ref (241 + k0)), (1, .ref (kr + 100)), (2, .null)]) rfl rfl rfl nK_1 rfl rfl ?_
      refine w_p (pc1 := 13) rfl rfl ?_
      refine Wd_al (al := [(4, .int (nI (pre.length + 1))), (3, .int (ck g)), (0, .ref (241 + k0)), (1, .ref (kr + 100)), (2, .null)]) (sba_p [0, 1, 3, 4, 5] rfl rfl) ?_
      exact ih g
set_option maxRecDepth 100000 in
theorem m_137d (hk : SK[kr]? = some (1, 1, 6, l)) (U : RUo t k0 kc kt u fc ft vc) (hR : okR wd u) (hK : rKd u = 4) (hb1 : rTg u = some b) (h6b : wd b ≤ 6) (hB : bfK C kr (wd b) O) : Wd L xs d y_137 (0, [(0, .ref (241 + k0)), (1, .ref (kr + 100)), (2, .null)], [], MH C t, sl) (Rt (some (.int (ck (tch 2 (rOs u) O N)))) (MH C t) sl) nX := by
  have e0 : tch 2 (rOs u) O N = (!nul (rOs u) O && true) := by unfold tch; rw [decide_eq_true rfl, Bool.true_or]
  rw [e0]
  refine w_p (pc1 := 1) rfl rfl ?_
  refine w_f (a := 8) (b := 4) rfl rfl rfl ?_
  refine w_p (pc1 := 5) (st1 := .int 1 :: _) rfl rfl ?_
  refine w_p (pc1 := 9) rfl rfl ?_
  refine w_p (pc1 := 10) (al1 := [(3, .int 1), (0, .ref (241 + k0)), (1, .ref (kr + 100)), (2, .null)]) rfl rfl ?_
  refine w_p (pc1 := 11) (st1 := .int 0 :: _) rfl rfl ?_
  refine w_p (pc1 := 13) (al1 := [(4, .int 0), (3, .int 1), (0, .ref (241 + k0)), (1, .ref (kr + 100)), (2, .null)]) rfl rfl ?_
  exact lp_137d hk U hR hK hb1 h6b hB (rOs u) [] true rfl
set_option maxRecDepth 100000 in
theorem lp_137u (hk : SK[kr]? = some (1, 1, 6, l)) (U : RUo t k0 kc kt u fc ft vc) (hR : okR wd u) (hK : rKd u = 4) (hb1 : rTg u = some b) (h6b : wd b ≤ 6) (hB : bfK C kr (wd b) O) (hk2 : SK[kf]? = some (1, 1, 6, l)) (hB2 : bfK C kf (wd b) N) : ∀ (suf pre : List Nat) (g : Bool), pre ++ suf = rOs u → Wd L xs d y_137 (13, [(4, .int (nI (pre.length))), (3, .int (ck g)), (0, .ref (241 + k0)), (1, .ref (kr + 100)), (2, .ref (kf + 100))], [], MH C t, sl) (Rt (some (.int (ck (!nul suf O && (g || suf.any (fun c => !decide (N c = O c))))))) (MH C t) sl) nX
  | [], pre, g, hp => by
    rw [List.append_nil] at hp
    have hl2 := congrArg List.length hp
    obtain ⟨⟨b9, hb9, hb2, hb3⟩, hll⟩ := hR.2.1 hK
    rw [hb1] at hb9
    cases hb9
    have h6 := hR.1.2.2.1
    have e0 : (!nul [] O && (g || ([] : List Nat).any (fun c => !decide (N c = O c)))) = g := by cases g <;> rfl
    rw [e0]
    refine w_p (pc1 := 15) rfl rfl ?_
    refine w_p (pc1 := 16) rfl rfl ?_
    refine w_m0 (pc1 := 19) (st1 := .int (nI ((rCs u).length)) :: _) rfl rfl (x_gf (k := k0) rfl U.1 rfl) rfl ?_
    refine w_t (a := 103) (b := 22) (bN_ge_t (a := pre.length) (b := (rCs u).length) (by omega) (by omega) (by omega)) rfl rfl ?_
    refine w_p (pc1 := 104) rfl rfl ?_
    refine w_r rfl rfl rfl (fun _ _ => rfl) cr_ck ?_
    exact ⟨rfl, rfl, rfl⟩
  | c :: suf, pre, g, hp => by
    obtain ⟨h1, h2, h3⟩ := get_ap hp
    obtain ⟨⟨b9, hb9, hb2, hb3⟩, hll⟩ := hR.2.1 hK
    rw [hb1] at hb9
    cases hb9
    have h6 := hR.1.2.2.1
    have hf := U.2.2.2.2 _ _ h1
    rw [Nat.zero_add] at hf
    have hew := hb3 c (List.mem_of_getElem? h1)
    have hv := hB c hew
    have hv2 := hB2 c hew
    have ih := fun g' => lp_137u hk U hR hK hb1 h6b hB hk2 hB2 suf (pre ++ [c]) g' h3
    rw [len_s] at ih
    have en : nul (c :: suf) O = (decide (O c = none) || nul suf O) := rfl
    cases hx : O c with
    | none =>
      have e0 : (!nul (c :: suf) O && (g || (c :: suf).any (fun c => !decide (N c = O c)))) = false := by rw [en, hx]; rfl
      rw [e0]
      rw [hx] at hv
      refine w_p (pc1 := 15) rfl rfl ?_
      refine w_p (pc1 := 16) rfl rfl ?_
      refine w_m0 (pc1 := 19) (st1 := .int (nI ((rCs u).length)) :: _) rfl rfl (x_gf (k := k0) rfl U.1 rfl) rfl ?_
      refine w_f (a := 103) (b := 22) (bN_ge_f (a := pre.length) (b := (rCs u).length) (by omega) (by omega) (by omega)) rfl rfl ?_
      refine w_p (pc1 := 24) rfl rfl ?_
      refine w_p (pc1 := 25) rfl rfl ?_
      refine w_m0 (pc1 := 28) (st1 := .ref (241 + kt) :: _) rfl rfl (x_gf (k := k0) rfl U.1 rfl) rfl ?_
      refine w_m0 (pc1 := 29) (st1 := .int (nI (6)) :: _) rfl rfl (x_ln (k := kt) U.2.2.1 (by decide)) rfl ?_
      refine w_f (a := 103) (b := 32) (bN_ge_f (a := pre.length) (b := 6) (by omega) (by omega) (by omega)) rfl rfl ?_
      refine w_p (pc1 := 33) rfl rfl ?_
      refine w_m0 (pc1 := 36) (st1 := .ref (241 + kt) :: _) rfl rfl (x_gf (k := k0) rfl U.1 rfl) rfl ?_
      refine w_p (pc1 := 38) rfl rfl ?_
      refine w_m0 (pc1 := 39) (st1 := .int (nI (c)) :: _) rfl rfl (x_ile (k := kt) (e := pre.length) U.2.2.1 (by omega) (by omega) (hf)) rfl ?_
      refine w_p (pc1 := 41) (al1 := [(5, .int (nI (c))), (4, .int (nI (pre.length))), (3, .int (ck g)), (0, .ref (241 + k0)), (1, .ref (kr + 100)), (2, .ref (kf + 100))]) rfl rfl ?_
      refine w_p (pc1 := 43) rfl rfl ?_
      refine w_f (a := 64) (b := 46) (bN_lt_f (a := c) (b := 0) (by omega) (by omega) (by omega)) rfl rfl ?_
      refine w_p (pc1 := 48) rfl rfl ?_
      refine w_p (pc1 := 49) rfl rfl ?_
      refine w_m0 (pc1 := 50) (st1 := .int (nI (6)) :: _) rfl rfl (h_lnJ (k := kr) rfl hk (by decide)) rfl ?_
      refine w_f (a := 64) (b := 53) (bN_ge_f (a := c) (b := 6) (by omega) (by omega) (by omega)) rfl rfl ?_
      refine w_p (pc1 := 54) rfl rfl ?_
      refine w_p (pc1 := 56) rfl rfl ?_
      refine w_m0 (pc1 := 57) (st1 := .long (e_V none) :: _) rfl rfl (n_lle (k := kr) (e := c) rfl hk rfl (by omega) (hv)) rfl ?_
      refine w_m0 (pc1 := 60) (st1 := .long (-9223372036854775808) :: _) rfl rfl rfl rfl ?_
      refine w_p (pc1 := 61) rfl rfl ?_
      refine w_f (a := 66) (b := 64) (lb_ne_f (by rfl)) rfl rfl ?_
      refine w_p (pc1 := 65) (st1 := .int 0 :: _) rfl rfl ?_
      refine w_r rfl rfl rfl (fun _ _ => rfl) rfl ?_
      exact ⟨rfl, rfl, rfl⟩
    | some x =>
      rw [hx] at hv

      by_cases hy : N c = O c
      · have e0 : (!nul (c :: suf) O && (g || (c :: suf).any (fun c => !decide (N c = O c)))) = (!nul suf O && (g || suf.any (fun c => !decide (N c = O c)))) := by
          rw [en, List.any_cons, decide_eq_true hy, hx, decide_eq_false (by intro z; cases z), Bool.false_or]
          rfl
        rw [e0]
        rw [hy, hx] at hv2
        refine w_p (pc1 := 15) rfl rfl ?_
        refine w_p (pc1 := 16) rfl rfl ?_
        refine w_m0 (pc1 := 19) (st1 := .int (nI ((rCs u).length)) :: _) rfl rfl (x_gf (k := k0) rfl U.1 rfl) rfl ?_
        refine w_f (a := 103) (b := 22) (bN_ge_f (a := pre.length) (b := (rCs u).length) (by omega) (by omega) (by omega)) rfl rfl ?_
        refine w_p (pc1 := 24) rfl rfl ?_
        refine w_p (pc1 := 25) rfl rfl ?_
        refine w_m0 (pc1 := 28) (st1 := .ref (241 + kt) :: _) rfl rfl (x_gf (k := k0) rfl U.1 rfl) rfl ?_
        refine w_m0 (pc1 := 29) (st1 := .int (nI (6)) :: _) rfl rfl (x_ln (k := kt) U.2.2.1 (by decide)) rfl ?_
        refine w_f (a := 103) (b := 32) (bN_ge_f (a := pre.length) (b := 6) (by omega) (by omega) (by omega)) rfl rfl ?_
        refine w_p (pc1 := 33) rfl rfl ?_
        refine w_m0 (pc1 := 36) (st1 := .ref (241 + kt) :: _) rfl rfl (x_gf (k := k0) rfl U.1 rfl) rfl ?_
        refine w_p (pc1 := 38) rfl rfl ?_
        refine w_m0 (pc1 := 39) (st1 := .int (nI (c)) :: _) rfl rfl (x_ile (k := kt) (e := pre.length) U.2.2.1 (by omega) (by omega) (hf)) rfl ?_
        refine w_p (pc1 := 41) (al1 := [(5, .int (nI (c))), (4, .int (nI (pre.length))), (3, .int (ck g)), (0, .ref (241 + k0)), (1, .ref (kr + 100)), (2, .ref (kf + 100))]) rfl rfl ?_
        refine w_p (pc1 := 43) rfl rfl ?_
        refine w_f (a := 64) (b := 46) (bN_lt_f (a := c) (b := 0) (by omega) (by omega) (by omega)) rfl rfl ?_
        refine w_p (pc1 := 48) rfl rfl ?_
        refine w_p (pc1 := 49) rfl rfl ?_
        refine w_m0 (pc1 := 50) (st1 := .int (nI (6)) :: _) rfl rfl (h_lnJ (k := kr) rfl hk (by decide)) rfl ?_
        refine w_f (a := 64) (b := 53) (bN_ge_f (a := c) (b := 6) (by omega) (by omega) (by omega)) rfl rfl ?_
        refine w_p (pc1 := 54) rfl rfl ?_
        refine w_p (pc1 := 56) rfl rfl ?_
        refine w_m0 (pc1 := 57) (st1 := .long (e_V (some x)) :: _) rfl rfl (n_lle (k := kr) (e := c) rfl hk rfl (by omega) (hv)) rfl ?_
        refine w_m0 (pc1 := 60) (st1 := .long (-9223372036854775808) :: _) rfl rfl rfl rfl ?_
        refine w_p (pc1 := 61) rfl rfl ?_
        refine w_t (a := 66) (b := 64) (lb_ne_t (by exact e_V_ne x)) rfl rfl ?_
        refine w_p (pc1 := 67) rfl rfl ?_
        refine w_p (pc1 := 68) rfl rfl ?_
        refine w_f (a := 94) (b := 71) rfl rfl rfl ?_
        refine w_p (pc1 := 73) rfl rfl ?_
        refine w_p (pc1 := 74) rfl rfl ?_
        refine w_m0 (pc1 := 75) (st1 := .int (nI (6)) :: _) rfl rfl (h_lnJ (k := kf) rfl hk2 (by decide)) rfl ?_
        refine w_f (a := 94) (b := 78) (bN_ge_f (a := c) (b := 6) (by omega) (by omega) (by omega)) rfl rfl ?_
        refine w_p (pc1 := 79) rfl rfl ?_
        refine w_p (pc1 := 81) rfl rfl ?_
        refine w_m0 (pc1 := 82) (st1 := .long (e_V (some x)) :: _) rfl rfl (n_lle (k := kf) (e := c) rfl hk2 rfl (by omega) (hv2)) rfl ?_
        refine w_p (pc1 := 83) rfl rfl ?_
        refine w_p (pc1 := 85) rfl rfl ?_
        refine w_m0 (pc1 := 86) (st1 := .long (e_V (some x)) :: _) rfl rfl (n_lle (k := kr) (e := c) rfl hk rfl (by omega) (hv)) rfl ?_
        refine w_p (pc1 := 87) rfl rfl ?_
        refine w_t (a := 94) (b := 90) (lb_eq_t (by rfl)) rfl rfl ?_
        refine w_p (pc1 := 95) (st1 := .int 0 :: _) rfl rfl ?_
        refine w_ior (pc1 := 96) (z := ck g) rfl (by cases g <;> rfl) rfl ?_
        refine w_p (pc1 := 97) (al1 := [(3, .int (ck g)), (5, .int (nI (c))), (4, .int (nI (pre.length))), (0, .ref (241 + k0)), (1, .ref (kr + 100)), (2, .ref (kf + 100))]) rfl rfl ?_
        refine w_iinc (pc1 := 100) (u := nI (pre.length)) (z := nI (pre.length + 1)) (al1 := [(4, .int (nI (pre.length + 1))), (3, .int (ck g)), (5, .int (nI (c))), (0, .ref (241 + k0)), (1, .ref (kr + 100)), (2, .ref (kf + 100))]) rfl rfl rfl nK_1 rfl rfl ?_
        refine w_p (pc1 := 13) rfl rfl ?_
        refine Wd_al (al := [(4, .int (nI (pre.length + 1))), (3, .int (ck g)), (0, .ref (241 + k0)), (1, .ref (kr + 100)), (2, .ref (kf + 100))]) (sba_p [0, 1, 3, 4, 5] rfl rfl) ?_
        exact ih g
      · have e0 : (!nul (c :: suf) O && (g || (c :: suf).any (fun c => !decide (N c = O c)))) = (!nul suf O && (true || suf.any (fun c => !decide (N c = O c)))) := by
          rw [en, List.any_cons, decide_eq_false hy, hx, decide_eq_false (by intro z; cases z), Bool.false_or]
          cases g <;> rfl
        rw [e0]
        refine w_p (pc1 := 15) rfl rfl ?_
        refine w_p (pc1 := 16) rfl rfl ?_
        refine w_m0 (pc1 := 19) (st1 := .int (nI ((rCs u).length)) :: _) rfl rfl (x_gf (k := k0) rfl U.1 rfl) rfl ?_
        refine w_f (a := 103) (b := 22) (bN_ge_f (a := pre.length) (b := (rCs u).length) (by omega) (by omega) (by omega)) rfl rfl ?_
        refine w_p (pc1 := 24) rfl rfl ?_
        refine w_p (pc1 := 25) rfl rfl ?_
        refine w_m0 (pc1 := 28) (st1 := .ref (241 + kt) :: _) rfl rfl (x_gf (k := k0) rfl U.1 rfl) rfl ?_
        refine w_m0 (pc1 := 29) (st1 := .int (nI (6)) :: _) rfl rfl (x_ln (k := kt) U.2.2.1 (by decide)) rfl ?_
        refine w_f (a := 103) (b := 32) (bN_ge_f (a := pre.length) (b := 6) (by omega) (by omega) (by omega)) rfl rfl ?_
        refine w_p (pc1 := 33) rfl rfl ?_
        refine w_m0 (pc1 := 36) (st1 := .ref (241 + kt) :: _) rfl rfl (x_gf (k := k0) rfl U.1 rfl) rfl ?_
        refine w_p (pc1 := 38) rfl rfl ?_
        refine w_m0 (pc1 := 39) (st1 := .int (nI (c)) :: _) rfl rfl (x_ile (k := kt) (e := pre.length) U.2.2.1 (by omega) (by omega) (hf)) rfl ?_
        refine w_p (pc1 := 41) (al1 := [(5, .int (nI (c))), (4, .int (nI (pre.length))), (3, .int (ck g)), (0, .ref (241 + k0)), (1, .ref (kr + 100)), (2, .ref (kf + 100))]) rfl rfl ?_
        refine w_p (pc1 := 43) rfl rfl ?_
        refine w_f (a := 64) (b := 46) (bN_lt_f (a := c) (b := 0) (by omega) (by omega) (by omega)) rfl rfl ?_
        refine w_p (pc1 := 48) rfl rfl ?_
        refine w_p (pc1 := 49) rfl rfl ?_
        refine w_m0 (pc1 := 50) (st1 := .int (nI (6)) :: _) rfl rfl (h_lnJ (k := kr) rfl hk (by decide)) rfl ?_
        refine w_f (a := 64) (b := 53) (bN_ge_f (a := c) (b := 6) (by omega) (by omega) (by omega)) rfl rfl ?_
        refine w_p (pc1 := 54) rfl rfl ?_
        refine w_p (pc1 := 56) rfl rfl ?_
        refine w_m0 (pc1 := 57) (st1 := .long (e_V (some x)) :: _) rfl rfl (n_lle (k := kr) (e := c) rfl hk rfl (by omega) (hv)) rfl ?_
        refine w_m0 (pc1 := 60) (st1 := .long (-9223372036854775808) :: _) rfl rfl rfl rfl ?_
        refine w_p (pc1 := 61) rfl rfl ?_
        refine w_t (a := 66) (b := 64) (lb_ne_t (by exact e_V_ne x)) rfl rfl ?_
        refine w_p (pc1 := 67) rfl rfl ?_
        refine w_p (pc1 := 68) rfl rfl ?_
        refine w_f (a := 94) (b := 71) rfl rfl rfl ?_
        refine w_p (pc1 := 73) rfl rfl ?_
        refine w_p (pc1 := 74) rfl rfl ?_
        refine w_m0 (pc1 := 75) (st1 := .int (nI (6)) :: _) rfl rfl (h_lnJ (k := kf) rfl hk2 (by decide)) rfl ?_
        refine w_f (a := 94) (b := 78) (bN_ge_f (a := c) (b := 6) (by omega) (by omega) (by omega)) rfl rfl ?_
        refine w_p (pc1 := 79) rfl rfl ?_
        refine w_p (pc1 := 81) rfl rfl ?_
        refine w_m0 (pc1 := 82) (st1 := .long (e_V (N c)) :: _) rfl rfl (n_lle (k := kf) (e := c) rfl hk2 rfl (by omega) (hv2)) rfl ?_
        refine w_p (pc1 := 83) rfl rfl ?_
        refine w_p (pc1 := 85) rfl rfl ?_
        refine w_m0 (pc1 := 86) (st1 := .long (e_V (some x)) :: _) rfl rfl (n_lle (k := kr) (e := c) rfl hk rfl (by omega) (hv)) rfl ?_
        refine w_p (pc1 := 87) rfl rfl ?_
        refine w_f (a := 94) (b := 90) (lb_eq_f (by exact fun z => hy (by rw [hx]; exact e_V_inj z))) rfl rfl ?_
        refine w_p (pc1 := 91) (st1 := .int 1 :: _) rfl rfl ?_
        refine w_p (pc1 := 95) rfl rfl ?_
        refine w_ior (pc1 := 96) (z := ck true) rfl (by cases g <;> rfl) rfl ?_
        refine w_p (pc1 := 97) (al1 := [(3, .int (ck true)), (5, .int (nI (c))), (4, .int (nI (pre.length))), (0, .ref (241 + k0)), (1, .ref (kr + 100)), (2, .ref (kf + 100))]) rfl rfl ?_
        refine w_iinc (pc1 := 100) (u := nI (pre.length)) (z := nI (pre.length + 1)) (al1 := [(4, .int (nI (pre.length + 1))), (3, .int (ck true)), (5, .int (nI (c))), (0, .ref (241 + k0)), (1, .ref (kr + 100)), (2, .ref (kf + 100))]) rfl rfl rfl nK_1 rfl rfl ?_
        refine w_p (pc1 := 13) rfl rfl ?_
        refine Wd_al (al := [(4, .int (nI (pre.length + 1))), (3, .int (ck true)), (0, .ref (241 + k0)), (1, .ref (kr + 100)), (2, .ref (kf + 100))]) (sba_p [0, 1, 3, 4, 5] rfl rfl) ?_
        exact ih true
set_option maxRecDepth 100000 in
theorem m_137u (hk : SK[kr]? = some (1, 1, 6, l)) (U : RUo t k0 kc kt u fc ft vc) (hR : okR wd u) (hK : rKd u = 4) (hb1 : rTg u = some b) (h6b : wd b ≤ 6) (hB : bfK C kr (wd b) O) (hk2 : SK[kf]? = some (1, 1, 6, l)) (hB2 : bfK C kf (wd b) N) : Wd L xs d y_137 (0, [(0, .ref (241 + k0)), (1, .ref (kr + 100)), (2, .ref (kf + 100))], [], MH C t, sl) (Rt (some (.int (ck (tch 1 (rOs u) O N)))) (MH C t) sl) nX := by
  have e0 : tch 1 (rOs u) O N = (!nul (rOs u) O && (false || (rOs u).any (fun c => !decide (N c = O c)))) := by unfold tch; rfl
  rw [e0]
  refine w_p (pc1 := 1) rfl rfl ?_
  refine w_t (a := 8) (b := 4) rfl rfl rfl ?_
  refine w_p (pc1 := 9) (st1 := .int 0 :: _) rfl rfl ?_
  refine w_p (pc1 := 10) (al1 := [(3, .int 0), (0, .ref (241 + k0)), (1, .ref (kr + 100)), (2, .ref (kf + 100))]) rfl rfl ?_
  refine w_p (pc1 := 11) (st1 := .int 0 :: _) rfl rfl ?_
  refine w_p (pc1 := 13) (al1 := [(4, .int 0), (3, .int 0), (0, .ref (241 + k0)), (1, .ref (kr + 100)), (2, .ref (kf + 100))]) rfl rfl ?_
  exact lp_137u hk U hR hK hb1 h6b hB hk2 hB2 (rOs u) [] false rfl
end KE2
