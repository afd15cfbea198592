
/-! THE OTHER SIDE: the first row by which a rule is broken -/
def RWM (C : co_T) (wd : Nat → Nat) (rs : rs_T) : Prop := RWf (C.2.1 116) (C.1 115) (C.1 117) wd rs
def foM (C : co_T) (p a : Nat) (O : List op_T) : Prop := ∀ j q, O[j]? = some q → eqO q (C.1 106 (620 * p + (a + j))) (C.2.1 107 (620 * p + (a + j)))
def RUM (C : co_T) (r : Nat) (u : ru_T) : Prop := (C.1 84 r = nI (rKd u) ∧ C.1 85 r = nI (rTb u) ∧ C.1 86 r = tgI (rTg u) ∧ C.1 87 r = nI (rCs u).length ∧ arI (C.1 88) (6 * r) (rCs u) ∧ arI (C.1 89) (6 * r) (rOs u)) ∧ (C.1 90 r = ck (rLt u) ∧ C.1 92 r = nI (rDl u) ∧ C.1 93 r = nI (rUp u)) ∧ (∀ O, rCk u = some O → C.1 113 r = nI O.length ∧ foM C r 0 O ∧ C.1 94 r = nI O.length) ∧ (rCk u = none → C.1 94 r = 0)
def frZ (C C' : co_T) : Prop := frW C C' ∧ C'.1 76 74 = C.1 76 74
set_option maxRecDepth 100000 in
theorem frZ_r {C : co_T} : frZ C C := ⟨frW_r, rfl⟩
set_option maxRecDepth 100000 in
theorem frZ_t {C1 C2 C3 : co_T} (h : frZ C1 C2) (g : frZ C2 C3) : frZ C1 C3 := ⟨frW_t h.1 g.1, g.2.trans h.2⟩
set_option maxRecDepth 100000 in
theorem RWM_f {C C' : co_T} {wd : Nat → Nat} {rs : rs_T} (h : frW C C') (W : RWM C wd rs) : RWM C' wd rs := by
  intro b hb
  obtain ⟨h1, h2, h3, h4⟩ := W b hb
  exact ⟨h1, (h.1 117 b (by omega)).trans h2, h3, fun k r hr => ⟨(h.1 115 _ (by omega)).trans (h4 k r hr).1, fun c hc => (h.2.1 116 _ (by decide)).trans ((h4 k r hr).2 c hc)⟩⟩
set_option maxRecDepth 100000 in
theorem foM_f {C C' : co_T} {p a : Nat} {O : List op_T} (h : frW C C') (F : foM C p a O) : foM C' p a O := by
  intro j q hj
  rw [h.1 106 _ (by omega), h.2.1 107 _ (by decide)]
  exact F j q hj
set_option maxRecDepth 100000 in
theorem RUM_f {C C' : co_T} {r : Nat} {u : ru_T} (h : frW C C') (U : RUM C r u) : RUM C' r u := by
  obtain ⟨⟨h1, h2, h3, h4, h5, h6⟩, ⟨h7, h8, h9⟩, h10, h11⟩ := U
  exact ⟨⟨(h.1 84 r (by omega)).trans h1, (h.1 85 r (by omega)).trans h2, (h.1 86 r (by omega)).trans h3, (h.1 87 r (by omega)).trans h4, fun j c hj => (h.1 88 _ (by omega)).trans (h5 j c hj), fun j c hj => (h.1 89 _ (by omega)).trans (h6 j c hj)⟩, ⟨(h.1 90 r (by omega)).trans h7, (h.1 92 r (by omega)).trans h8, (h.1 93 r (by omega)).trans h9⟩, fun O hO => ⟨(h.1 113 r (by omega)).trans (h10 O hO).1, foM_f h (h10 O hO).2.1, (h.1 94 r (by omega)).trans (h10 O hO).2.2⟩, fun hn => (h.1 94 r (by omega)).trans (h11 hn)⟩
section MRU
variable {L : Nat} {xs : Nat → Int32} {C : co_T} {t : ab_H} {d sl k b c i : Nat} {wd : Nat → Nat} {rs : rs_T} {u : ru_T} {r q : ro_T}
set_option maxRecDepth 100000 in
theorem m_263 (hb : b < 6) (hk : k < 40) (hc : c < 6) : Wd L xs d y_263 (0, [(0, .ref 176), (1, .int (nI b)), (2, .int (nI k)), (3, .int (nI c))], [], MH C t, sl) (Rt (some (.long (C.2.1 116 ((b * 40 + k) * 6 + c)))) (MH C t) sl) nX := by
  rw [show (b * 40 + k) * 6 + c = 6 * (40 * b + k) + c by omega]
  refine w_p (pc1 := 1) rfl rfl ?_
  refine w_m0 (pc1 := 4) rfl rfl (h_gC rfl rfl rfl rfl) rfl ?_
  refine w_p (pc1 := 6) (st1 := .int 6 :: _) rfl rfl ?_
  refine w_p (pc1 := 8) (st1 := .int 40 :: _) rfl rfl ?_
  refine w_p (pc1 := 9) rfl rfl ?_
  refine w_imul (pc1 := 10) (u := nI (40)) (v := nI (b)) (z := nI (40 * b)) rfl (nK_mul) rfl ?_
  refine w_p (pc1 := 11) rfl rfl ?_
  refine w_iadd (pc1 := 12) (u := nI (40 * b)) (v := nI (k)) (z := nI (40 * b + k)) rfl (nK_add) rfl ?_
  refine w_imul (pc1 := 13) (u := nI (6)) (v := nI (40 * b + k)) (z := nI (6 * (40 * b + k))) rfl (nK_mul) rfl ?_
  refine w_p (pc1 := 14) rfl rfl ?_
  refine w_iadd (pc1 := 15) (u := nI (6 * (40 * b + k))) (v := nI (c)) (z := nI (6 * (40 * b + k) + c)) rfl (nK_add) rfl ?_
  refine w_m0 (pc1 := 16) rfl rfl (n_ll (e := 6 * (40 * b + k) + c) rfl rfl rfl (by omega)) rfl ?_
  refine w_r rfl rfl rfl (fun _ _ => rfl) rfl ?_
  exact ⟨rfl, rfl, rfl⟩
set_option maxRecDepth 100000 in
theorem cellM (W : RWM C wd rs) (hb : b < 6) (hr : (rs b).1[k]? = some r) (hc : c < wd b) : Wd L xs d y_263 (0, [(0, .ref 176), (1, .int (nI b)), (2, .int (nI k)), (3, .int (nI c))], [], MH C t, sl) (Rt (some (.long (e_V (r.2 c)))) (MH C t) sl) nX := by
  obtain ⟨h1, h2, h3, h4⟩ := W b hb
  have hk := get_lt hr
  have := m_263 (L := L) (xs := xs) (C := C) (t := t) (d := d) (sl := sl) hb (k := k) (c := c) (by omega) (by omega)
  rw [(h4 k r hr).2 c hc] at this
  exact this
set_option maxRecDepth 100000 in
theorem lp_277 {j : Nat} (W : RWM C wd rs) (U : RUM C i u) (hi : i < 24) (hR : okR wd u) (hq : (rs (rTb u)).1[j]? = some q) (hr : (rs (rTb u)).1[k]? = some r) : ∀ suf pre : List Nat, pre ++ suf = rCs u → Wd L xs (d + 1) y_277 (3, [(5, .int (nI (pre.length))), (0, .ref 176), (1, .int (nI (rTb u))), (2, .int (nI (j))), (3, .int (nI (k))), (4, .int (nI (i)))], [], MH C t, sl) (Rt (some (.int (ck (alk suf suf r.2 q.2)))) (MH C t) sl) nX
  | [], pre, hp => by
    rw [List.append_nil] at hp
    have hl := congrArg List.length hp
    have hb := hR.1.2.1
    have h6 := hR.1.2.2.1
    have h40 := (W _ hb).2.2.1
    have w6 := (W _ hb).1
    refine w_p (pc1 := 5) rfl rfl ?_
    refine w_p (pc1 := 6) rfl rfl ?_
    refine w_m0 (pc1 := 9) rfl rfl (h_gC rfl rfl rfl rfl) rfl ?_
    refine w_p (pc1 := 11) rfl rfl ?_
    refine w_m0 (pc1 := 12) (st1 := .int (nI ((rCs u).length)) :: _) rfl rfl (n_ile (e := i) rfl rfl rfl (by omega) (U.1.2.2.2.1)) rfl ?_
    refine w_t (a := 58) (b := 15) (bN_ge_t (a := pre.length) (b := (rCs u).length) (by omega) (by omega) (by omega)) rfl rfl ?_
    refine w_p (pc1 := 59) (st1 := .int 1 :: _) rfl rfl ?_
    refine w_r rfl rfl rfl (fun _ _ => rfl) rfl ?_
    exact ⟨rfl, rfl, rfl⟩
  | c :: suf, pre, hp => by
    obtain ⟨h1, h2, h3⟩ := get_ap hp
    have hb := hR.1.2.1
    have h6 := hR.1.2.2.1
    have h40 := (W _ hb).2.2.1
    have w6 := (W _ hb).1
    have hf := U.1.2.2.2.2.1 _ _ h1
    have hcw := hR.1.2.2.2 c (List.mem_of_getElem? h1)
    have hk := get_lt hr
    have hj := get_lt hq
    have hm := cellM (L := L) (xs := xs) (t := t) (d := d) (sl := 0) W hb hr hcw
    have hm2 := cellM (L := L) (xs := xs) (t := t) (d := d) (sl := 0) W hb hq hcw
    by_cases hx : r.2 c = q.2 c
    · have e0 : alk (c :: suf) (c :: suf) r.2 q.2 = alk suf suf r.2 q.2 := by
        show (decide (r.2 c = q.2 c) && alk suf suf r.2 q.2) = _
        rw [decide_eq_true hx, Bool.true_and]
      rw [e0]
      refine w_p (pc1 := 5) rfl rfl ?_
      refine w_p (pc1 := 6) rfl rfl ?_
      refine w_m0 (pc1 := 9) rfl rfl (h_gC rfl rfl rfl rfl) rfl ?_
      refine w_p (pc1 := 11) rfl rfl ?_
      refine w_m0 (pc1 := 12) (st1 := .int (nI ((rCs u).length)) :: _) rfl rfl (n_ile (e := i) rfl rfl rfl (by omega) (U.1.2.2.2.1)) rfl ?_
      refine w_f (a := 58) (b := 15) (bN_ge_f (a := pre.length) (b := (rCs u).length) (by omega) (by omega) (by omega)) rfl rfl ?_
      refine w_p (pc1 := 16) rfl rfl ?_
      refine w_m0 (pc1 := 19) rfl rfl (h_gC rfl rfl rfl rfl) rfl ?_
      refine w_p (pc1 := 21) (st1 := .int 6 :: _) rfl rfl ?_
      refine w_p (pc1 := 23) rfl rfl ?_
      refine w_imul (pc1 := 24) (u := nI (6)) (v := nI (i)) (z := nI (6 * i)) rfl (nK_mul) rfl ?_
      refine w_p (pc1 := 26) rfl rfl ?_
      refine w_iadd (pc1 := 27) (u := nI (6 * i)) (v := nI (pre.length)) (z := nI (6 * i + (pre.length))) rfl (nK_add) rfl ?_
      refine w_m0 (pc1 := 28) (st1 := .int (nI (c)) :: _) rfl rfl (n_ile (e := 6 * i + (pre.length)) rfl rfl rfl (by omega) (hf)) rfl ?_
      refine w_p (pc1 := 30) (al1 := [(6, .int (nI (c))), (5, .int (nI (pre.length))), (0, .ref 176), (1, .int (nI (rTb u))), (2, .int (nI (j))), (3, .int (nI (k))), (4, .int (nI (i)))]) rfl rfl ?_
      refine w_p (pc1 := 31) rfl rfl ?_
      refine w_p (pc1 := 32) rfl rfl ?_
      refine w_p (pc1 := 33) rfl rfl ?_
      refine w_p (pc1 := 35) rfl rfl ?_
      refine w_je (pc1 := 38) (vs := [.ref 176, .int (nI (rTb u)), .int (nI (j)), .int (nI (c))]) (rest := []) (st1 := [.long (e_V (q.2 c))]) (hm2) rfl rfl rfl (fun _ _ => rfl) rfl (by exact cl_v my_263 rfl rfl rfl (Nat.le_of_ble_eq_true rfl) rfl (MH_obj rfl rfl) rfl (by decide) rfl rfl) (by rfl) (Nat.le_of_ble_eq_true rfl) (Nat.le_of_ble_eq_true rfl) rfl (by rfl) ?_
      refine w_p (pc1 := 39) rfl rfl ?_
      refine w_p (pc1 := 40) rfl rfl ?_
      refine w_p (pc1 := 41) rfl rfl ?_
      refine w_p (pc1 := 43) rfl rfl ?_
      refine w_je (pc1 := 46) (vs := [.ref 176, .int (nI (rTb u)), .int (nI (k)), .int (nI (c))]) (rest := [.long (e_V (q.2 c))]) (st1 := [.long (e_V (r.2 c)), .long (e_V (q.2 c))]) (hm) rfl rfl rfl (fun _ _ => rfl) rfl (by exact cl_v my_263 rfl rfl rfl (Nat.le_of_ble_eq_true rfl) rfl (MH_obj rfl rfl) rfl (by decide) rfl rfl) (by rfl) (Nat.le_of_ble_eq_true rfl) (Nat.le_of_ble_eq_true rfl) rfl (by rfl) ?_
      refine w_p (pc1 := 47) rfl rfl ?_
      refine w_t (a := 52) (b := 50) (lb_eq_t (by rw [hx])) rfl rfl ?_
      refine w_iinc (pc1 := 55) (u := nI (pre.length)) (z := nI (pre.length + 1)) (al1 := [(5, .int (nI (pre.length + 1))), (6, .int (nI (c))), (0, .ref 176), (1, .int (nI (rTb u))), (2, .int (nI (j))), (3, .int (nI (k))), (4, .int (nI (i)))]) rfl rfl rfl nK_1 rfl rfl ?_
      refine w_p (pc1 := 3) rfl rfl ?_
      refine Wd_al (al := [(5, .int (nI (pre.length + 1))), (0, .ref 176), (1, .int (nI (rTb u))), (2, .int (nI (j))), (3, .int (nI (k))), (4, .int (nI (i)))]) (sba_p [0, 2, 3, 4, 5, 6] rfl rfl) ?_
      have := lp_277 W U hi hR hq hr suf (pre ++ [c]) h3
      rw [len_s] at this
      exact this
    · have e0 : alk (c :: suf) (c :: suf) r.2 q.2 = false := by
        show (decide (r.2 c = q.2 c) && alk suf suf r.2 q.2) = _
        rw [decide_eq_false hx, Bool.false_and]
      rw [e0]
      refine w_p (pc1 := 5) rfl rfl ?_
      refine w_p (pc1 := 6) rfl rfl ?_
      refine w_m0 (pc1 := 9) rfl rfl (h_gC rfl rfl rfl rfl) rfl ?_
      refine w_p (pc1 := 11) rfl rfl ?_
      refine w_m0 (pc1 := 12) (st1 := .int (nI ((rCs u).length)) :: _) rfl rfl (n_ile (e := i) rfl rfl rfl (by omega) (U.1.2.2.2.1)) rfl ?_
      refine w_f (a := 58) (b := 15) (bN_ge_f (a := pre.length) (b := (rCs u).length) (by omega) (by omega) (by omega)) rfl rfl ?_
      refine w_p (pc1 := 16) rfl rfl ?_
      refine w_m0 (pc1 := 19) rfl rfl (h_gC rfl rfl rfl rfl) rfl ?_
      refine w_p (pc1 := 21) (st1 := .int 6 :: _) rfl rfl ?_
      refine w_p (pc1 := 23) rfl rfl ?_
      refine w_imul (pc1 := 24) (u := nI (6)) (v := nI (i)) (z := nI (6 * i)) rfl (nK_mul) rfl ?_
      refine w_p (pc1 := 26) rfl rfl ?_
      refine w_iadd (pc1 := 27) (u := nI (6 * i)) (v := nI (pre.length)) (z := nI (6 * i + (pre.length))) rfl (nK_add) rfl ?_
      refine w_m0 (pc1 := 28) (st1 := .int (nI (c)) :: _) rfl rfl (n_ile (e := 6 * i + (pre.length)) rfl rfl rfl (by omega) (hf)) rfl ?_
      refine w_p (pc1 := 30) (al1 := [(6, .int (nI (c))), (5, .int (nI (pre.length))), (0, .ref 176), (1, .int (nI (rTb u))), (2, .int (nI (j))), (3, .int (nI (k))), (4, .int (nI (i)))]) rfl rfl ?_
      refine w_p (pc1 := 31) rfl rfl ?_
      refine w_p (pc1 := 32) rfl rfl ?_
      refine w_p (pc1 := 33) rfl rfl ?_
      refine w_p (pc1 := 35) rfl rfl ?_
      refine w_je (pc1 := 38) (vs := [.ref 176, .int (nI (rTb u)), .int (nI (j)), .int (nI (c))]) (rest := []) (st1 := [.long (e_V (q.2 c))]) (hm2) rfl rfl rfl (fun _ _ => rfl) rfl (by exact cl_v my_263 rfl rfl rfl (Nat.le_of_ble_eq_true rfl) rfl (MH_obj rfl rfl) rfl (by decide) rfl rfl) (by rfl) (Nat.le_of_ble_eq_true rfl) (Nat.le_of_ble_eq_true rfl) rfl (by rfl) ?_
      refine w_p (pc1 := 39) rfl rfl ?_
      refine w_p (pc1 := 40) rfl rfl ?_
      refine w_p (pc1 := 41) rfl rfl ?_
      refine w_p (pc1 := 43) rfl rfl ?_
      refine w_je (pc1 := 46) (vs := [.ref 176, .int (nI (rTb u)), .int (nI (k)), .int (nI (c))]) (rest := [.long (e_V (q.2 c))]) (st1 := [.long (e_V (r.2 c)), .long (e_V (q.2 c))]) (hm) rfl rfl rfl (fun _ _ => rfl) rfl (by exact cl_v my_263 rfl rfl rfl (Nat.le_of_ble_eq_true rfl) rfl (MH_obj rfl rfl) rfl (by decide) rfl rfl) (by rfl) (Nat.le_of_ble_eq_true rfl) (Nat.le_of_ble_eq_true rfl) rfl (by rfl) ?_
      refine w_p (pc1 := 47) rfl rfl ?_
      refine w_f (a := 52) (b := 50) (lb_eq_f (by exact fun z => hx (e_V_inj z).symm)) rfl rfl ?_
      refine w_p (pc1 := 51) (st1 := .int 0 :: _) rfl rfl ?_
      refine w_r rfl rfl rfl (fun _ _ => rfl) rfl ?_
      exact ⟨rfl, rfl, rfl⟩
set_option maxRecDepth 100000 in
theorem m_277 {j : Nat} (W : RWM C wd rs) (U : RUM C i u) (hi : i < 24) (hR : okR wd u) (hq : (rs (rTb u)).1[j]? = some q) (hr : (rs (rTb u)).1[k]? = some r) : Wd L xs (d + 1) y_277 (0, [(0, .ref 176), (1, .int (nI (rTb u))), (2, .int (nI (j))), (3, .int (nI (k))), (4, .int (nI (i)))], [], MH C t, sl) (Rt (some (.int (ck (alk (rCs u) (rCs u) r.2 q.2)))) (MH C t) sl) nX := by
  refine w_p (pc1 := 1) (st1 := .int 0 :: _) rfl rfl ?_
  refine w_p (pc1 := 3) (al1 := [(5, .int 0), (0, .ref 176), (1, .int (nI (rTb u))), (2, .int (nI (j))), (3, .int (nI (k))), (4, .int (nI (i)))]) rfl rfl ?_
  exact lp_277 W U hi hR hq hr (rCs u) [] rfl
set_option maxRecDepth 100000 in
theorem lp_276i {j : Nat} (W : RWM C wd rs) (U : RUM C i u) (hi : i < 24) (hR : okR wd u) (hb1 : rTg u = some b) (hb2 : b < 6) (hb3 : ∀ c, c ∈ rOs u → c < wd b) (hll : (rOs u).length = (rCs u).length) (hr : (rs (rTb u)).1[k]? = some r) (hq : (rs b).1[j]? = some q) {P : Option Value → ab_H → Nat → Prop} {X : Nat → ab_H → Nat → Prop} : ∀ (suf pre sufe pree : List Nat), pre ++ suf = rCs u → pree ++ sufe = rOs u → pree.length = pre.length → Wd L xs (d + 1) y_276 (100, [(6, .int (ck (alk suf sufe r.2 q.2))), (5, .int (nI (j))), (4, .int (nI (b))), (0, .ref 176), (1, .int (nI (i))), (2, .int (nI (rTb u))), (3, .int (nI (k)))], [], MH C t, sl) P X → Wd L xs (d + 1) y_276 (29, [(7, .int (nI (pre.length))), (6, .int 1), (5, .int (nI (j))), (4, .int (nI (b))), (0, .ref 176), (1, .int (nI (i))), (2, .int (nI (rTb u))), (3, .int (nI (k)))], [], MH C t, sl) P X
  | [], pre, sufe, pree, hp, hpe, hpl, H => by
    rw [List.append_nil] at hp
    have hll2 := congrArg List.length hp
    have hb := hR.1.2.1
    have h6 := hR.1.2.2.1
    have h40 := (W _ hb).2.2.1
    have w6 := (W _ hb).1
    have e0 : alk [] sufe r.2 q.2 = true := by unfold alk; rfl
    rw [e0] at H
    refine w_p (pc1 := 31) rfl rfl ?_
    refine w_p (pc1 := 32) rfl rfl ?_
    refine w_m0 (pc1 := 35) rfl rfl (h_gC rfl rfl rfl rfl) rfl ?_
    refine w_p (pc1 := 36) rfl rfl ?_
    refine w_m0 (pc1 := 37) (st1 := .int (nI ((rCs u).length)) :: _) rfl rfl (n_ile (e := i) rfl rfl rfl (by omega) (U.1.2.2.2.1)) rfl ?_
    refine w_t (a := 100) (b := 40) (bN_ge_t (a := pre.length) (b := (rCs u).length) (by omega) (by omega) (by omega)) rfl rfl ?_
    refine Wd_al (al := [(6, .int 1), (5, .int (nI (j))), (4, .int (nI (b))), (0, .ref 176), (1, .int (nI (i))), (2, .int (nI (rTb u))), (3, .int (nI (k)))]) (sba_p [1, 2, 3, 4, 5, 6, 7] rfl rfl) ?_
    exact H
  | c :: suf, pre, [], pree, hp, hpe, hpl, H => by
    obtain ⟨h1, h2, h3⟩ := get_ap hp
    rw [List.append_nil] at hpe
    subst hpe
    omega
  | c :: suf, pre, e :: sufe, pree, hp, hpe, hpl, H => by
    obtain ⟨h1, h2, h3⟩ := get_ap hp
    obtain ⟨g1, g2, g3⟩ := get_ap hpe
    have hb := hR.1.2.1
    have h6 := hR.1.2.2.1
    have h40 := (W _ hb).2.2.1
    have w6 := (W _ hb).1
    have h41 := (W _ hb2).2.2.1
    have w61 := (W _ hb2).1
    have hk := get_lt hr
    have hj := get_lt hq
    have hf := U.1.2.2.2.2.1 _ _ h1
    have hf2 := U.1.2.2.2.2.2 _ _ g1
    rw [hpl] at hf2
    have hcw := hR.1.2.2.2 c (List.mem_of_getElem? h1)
    have hew := hb3 e (List.mem_of_getElem? g1)
    have hm := cellM (L := L) (xs := xs) (t := t) (d := d) (sl := 0) W hb hr hcw
    have hm2 := cellM (L := L) (xs := xs) (t := t) (d := d) (sl := 0) W hb2 hq hew
    by_cases hx : r.2 c = q.2 e
    · have e0 : alk (c :: suf) (e :: sufe) r.2 q.2 = alk suf sufe r.2 q.2 := by
        show (decide (r.2 c = q.2 e) && alk suf sufe r.2 q.2) = _
        rw [decide_eq_true hx, Bool.true_and]
      rw [e0] at H
      refine w_p (pc1 := 31) rfl rfl ?_
      refine w_p (pc1 := 32) rfl rfl ?_
      refine w_m0 (pc1 := 35) rfl rfl (h_gC rfl rfl rfl rfl) rfl ?_
      refine w_p (pc1 := 36) rfl rfl ?_
      refine w_m0 (pc1 := 37) (st1 := .int (nI ((rCs u).length)) :: _) rfl rfl (n_ile (e := i) rfl rfl rfl (by omega) (U.1.2.2.2.1)) rfl ?_
      refine w_f (a := 100) (b := 40) (bN_ge_f (a := pre.length) (b := (rCs u).length) (by omega) (by omega) (by omega)) rfl rfl ?_
      refine w_p (pc1 := 42) rfl rfl ?_
      refine w_f (a := 100) (b := 45) rfl rfl rfl ?_
      refine w_p (pc1 := 46) rfl rfl ?_
      refine w_p (pc1 := 48) rfl rfl ?_
      refine w_p (pc1 := 50) rfl rfl ?_
      refine w_p (pc1 := 51) rfl rfl ?_
      refine w_m0 (pc1 := 54) rfl rfl (h_gC rfl rfl rfl rfl) rfl ?_
      refine w_p (pc1 := 56) (st1 := .int 6 :: _) rfl rfl ?_
      refine w_p (pc1 := 57) rfl rfl ?_
      refine w_imul (pc1 := 58) (u := nI (6)) (v := nI (i)) (z := nI (6 * i)) rfl (nK_mul) rfl ?_
      refine w_p (pc1 := 60) rfl rfl ?_
      refine w_iadd (pc1 := 61) (u := nI (6 * i)) (v := nI (pre.length)) (z := nI (6 * i + (pre.length))) rfl (nK_add) rfl ?_
      refine w_m0 (pc1 := 62) (st1 := .int (nI (e)) :: _) rfl rfl (n_ile (e := 6 * i + (pre.length)) rfl rfl rfl (by omega) (hf2)) rfl ?_
      refine w_je (pc1 := 65) (vs := [.ref 176, .int (nI (b)), .int (nI (j)), .int (nI (e))]) (rest := []) (st1 := [.long (e_V (q.2 e))]) (hm2) rfl rfl rfl (fun _ _ => rfl) rfl (by exact cl_v my_263 rfl rfl rfl (Nat.le_of_ble_eq_true rfl) rfl (MH_obj rfl rfl) rfl (by decide) rfl rfl) (by rfl) (Nat.le_of_ble_eq_true rfl) (Nat.le_of_ble_eq_true rfl) rfl (by rfl) ?_
      refine w_p (pc1 := 66) rfl rfl ?_
      refine w_p (pc1 := 67) rfl rfl ?_
      refine w_p (pc1 := 68) rfl rfl ?_
      refine w_p (pc1 := 69) rfl rfl ?_
      refine w_m0 (pc1 := 72) rfl rfl (h_gC rfl rfl rfl rfl) rfl ?_
      refine w_p (pc1 := 74) (st1 := .int 6 :: _) rfl rfl ?_
      refine w_p (pc1 := 75) rfl rfl ?_
      refine w_imul (pc1 := 76) (u := nI (6)) (v := nI (i)) (z := nI (6 * i)) rfl (nK_mul) rfl ?_
      refine w_p (pc1 := 78) rfl rfl ?_
      refine w_iadd (pc1 := 79) (u := nI (6 * i)) (v := nI (pre.length)) (z := nI (6 * i + (pre.length))) rfl (nK_add) rfl ?_
      refine w_m0 (pc1 := 80) (st1 := .int (nI (c)) :: _) rfl rfl (n_ile (e := 6 * i + (pre.length)) rfl rfl rfl (by omega) (hf)) rfl ?_
      refine w_je (pc1 := 83) (vs := [.ref 176, .int (nI (rTb u)), .int (nI (k)), .int (nI (c))]) (rest := [.long (e_V (q.2 e))]) (st1 := [.long (e_V (r.2 c)), .long (e_V (q.2 e))]) (hm) rfl rfl rfl (fun _ _ => rfl) rfl (by exact cl_v my_263 rfl rfl rfl (Nat.le_of_ble_eq_true rfl) rfl (MH_obj rfl rfl) rfl (by decide) rfl rfl) (by rfl) (Nat.le_of_ble_eq_true rfl) (Nat.le_of_ble_eq_true rfl) rfl (by rfl) ?_
      refine w_p (pc1 := 84) rfl rfl ?_
      refine w_f (a := 91) (b := 87) (lb_ne_f (by rw [hx])) rfl rfl ?_
      refine w_p (pc1 := 88) (st1 := .int 1 :: _) rfl rfl ?_
      refine w_p (pc1 := 92) rfl rfl ?_
      refine w_p (pc1 := 94) (al1 := [(6, .int 1), (7, .int (nI (pre.length))), (5, .int (nI (j))), (4, .int (nI (b))), (0, .ref 176), (1, .int (nI (i))), (2, .int (nI (rTb u))), (3, .int (nI (k)))]) rfl rfl ?_
      refine w_iinc (pc1 := 97) (u := nI (pre.length)) (z := nI (pre.length + 1)) (al1 := [(7, .int (nI (pre.length + 1))), (6, .int 1), (5, .int (nI (j))), (4, .int (nI (b))), (0, .ref 176), (1, .int (nI (i))), (2, .int (nI (rTb u))), (3, .int (nI (k)))]) rfl rfl rfl nK_1 rfl rfl ?_
      refine w_p (pc1 := 29) rfl rfl ?_
      have := lp_276i W U hi hR hb1 hb2 hb3 hll hr hq (P := P) (X := X) suf (pre ++ [c]) sufe (pree ++ [e]) h3 g3 (by rw [len_s, len_s, hpl]) H
      rw [len_s] at this
      exact this
    · have e0 : alk (c :: suf) (e :: sufe) r.2 q.2 = false := by
        show (decide (r.2 c = q.2 e) && alk suf sufe r.2 q.2) = _
        rw [decide_eq_false hx, Bool.false_and]
      rw [e0] at H
      by_cases hlast : pre.length + 1 < (rCs u).length
      · skip
        refine w_p (pc1 := 31) rfl rfl ?_
        refine w_p (pc1 := 32) rfl rfl ?_
        refine w_m0 (pc1 := 35) rfl rfl (h_gC rfl rfl rfl rfl) rfl ?_
        refine w_p (pc1 := 36) rfl rfl ?_
        refine w_m0 (pc1 := 37) (st1 := .int (nI ((rCs u).length)) :: _) rfl rfl (n_ile (e := i) rfl rfl rfl (by omega) (U.1.2.2.2.1)) rfl ?_
        refine w_f (a := 100) (b := 40) (bN_ge_f (a := pre.length) (b := (rCs u).length) (by omega) (by omega) (by omega)) rfl rfl ?_
        refine w_p (pc1 := 42) rfl rfl ?_
        refine w_f (a := 100) (b := 45) rfl rfl rfl ?_
        refine w_p (pc1 := 46) rfl rfl ?_
        refine w_p (pc1 := 48) rfl rfl ?_
        refine w_p (pc1 := 50) rfl rfl ?_
        refine w_p (pc1 := 51) rfl rfl ?_
        refine w_m0 (pc1 := 54) rfl rfl (h_gC rfl rfl rfl rfl) rfl ?_
        refine w_p (pc1 := 56) (st1 := .int 6 :: _) rfl rfl ?_
        refine w_p (pc1 := 57) rfl rfl ?_
        refine w_imul (pc1 := 58) (u := nI (6)) (v := nI (i)) (z := nI (6 * i)) rfl (nK_mul) rfl ?_
        refine w_p (pc1 := 60) rfl rfl ?_
        refine w_iadd (pc1 := 61) (u := nI (6 * i)) (v := nI (pre.length)) (z := nI (6 * i + (pre.length))) rfl (nK_add) rfl ?_
        refine w_m0 (pc1 := 62) (st1 := .int (nI (e)) :: _) rfl rfl (n_ile (e := 6 * i + (pre.length)) rfl rfl rfl (by omega) (hf2)) rfl ?_
        refine w_je (pc1 := 65) (vs := [.ref 176, .int (nI (b)), .int (nI (j)), .int (nI (e))]) (rest := []) (st1 := [.long (e_V (q.2 e))]) (hm2) rfl rfl rfl (fun _ _ => rfl) rfl (by exact cl_v my_263 rfl rfl rfl (Nat.le_of_ble_eq_true rfl) rfl (MH_obj rfl rfl) rfl (by decide) rfl rfl) (by rfl) (Nat.le_of_ble_eq_true rfl) (Nat.le_of_ble_eq_true rfl) rfl (by rfl) ?_
        refine w_p (pc1 := 66) rfl rfl ?_
        refine w_p (pc1 := 67) rfl rfl ?_
        refine w_p (pc1 := 68) rfl rfl ?_
        refine w_p (pc1 := 69) rfl rfl ?_
        refine w_m0 (pc1 := 72) rfl rfl (h_gC rfl rfl rfl rfl) rfl ?_
        refine w_p (pc1 := 74) (st1 := .int 6 :: _) rfl rfl ?_
        refine w_p (pc1 := 75) rfl rfl ?_
        refine w_imul (pc1 := 76) (u := nI (6)) (v := nI (i)) (z := nI (6 * i)) rfl (nK_mul) rfl ?_
        refine w_p (pc1 := 78) rfl rfl ?_
        refine w_iadd (pc1 := 79) (u := nI (6 * i)) (v := nI (pre.length)) (z := nI (6 * i + (pre.length))) rfl (nK_add) rfl ?_
        refine w_m0 (pc1 := 80) (st1 := .int (nI (c)) :: _) rfl rfl (n_ile (e := 6 * i + (pre.length)) rfl rfl rfl (by omega) (hf)) rfl ?_
        refine w_je (pc1 := 83) (vs := [.ref 176, .int (nI (rTb u)), .int (nI (k)), .int (nI (c))]) (rest := [.long (e_V (q.2 e))]) (st1 := [.long (e_V (r.2 c)), .long (e_V (q.2 e))]) (hm) rfl rfl rfl (fun _ _ => rfl) rfl (by exact cl_v my_263 rfl rfl rfl (Nat.le_of_ble_eq_true rfl) rfl (MH_obj rfl rfl) rfl (by decide) rfl rfl) (by rfl) (Nat.le_of_ble_eq_true rfl) (Nat.le_of_ble_eq_true rfl) rfl (by rfl) ?_
        refine w_p (pc1 := 84) rfl rfl ?_
        refine w_t (a := 91) (b := 87) (lb_ne_t (by exact fun z => hx (e_V_inj z).symm)) rfl rfl ?_
        refine w_p (pc1 := 92) (st1 := .int 0 :: _) rfl rfl ?_
        refine w_p (pc1 := 94) (al1 := [(6, .int 0), (7, .int (nI (pre.length))), (5, .int (nI (j))), (4, .int (nI (b))), (0, .ref 176), (1, .int (nI (i))), (2, .int (nI (rTb u))), (3, .int (nI (k)))]) rfl rfl ?_
        refine w_iinc (pc1 := 97) (u := nI (pre.length)) (z := nI (pre.length + 1)) (al1 := [(7, .int (nI (pre.length + 1))), (6, .int 0), (5, .int (nI (j))), (4, .int (nI (b))), (0, .ref 176), (1, .int (nI (i))), (2, .int (nI (rTb u))), (3, .int (nI (k)))]) rfl rfl rfl nK_1 rfl rfl ?_
        refine w_p (pc1 := 29) rfl rfl ?_
        refine w_p (pc1 := 31) rfl rfl ?_
        refine w_p (pc1 := 32) rfl rfl ?_
        refine w_m0 (pc1 := 35) rfl rfl (h_gC rfl rfl rfl rfl) rfl ?_
        refine w_p (pc1 := 36) rfl rfl ?_
        refine w_m0 (pc1 := 37) (st1 := .int (nI ((rCs u).length)) :: _) rfl rfl (n_ile (e := i) rfl rfl rfl (by omega) (U.1.2.2.2.1)) rfl ?_
        refine w_f (a := 100) (b := 40) (bN_ge_f (a := pre.length + 1) (b := (rCs u).length) (by omega) (by omega) (by omega)) rfl rfl ?_
        refine w_p (pc1 := 42) rfl rfl ?_
        refine w_t (a := 100) (b := 45) rfl rfl rfl ?_
        refine Wd_al (al := [(6, .int 0), (5, .int (nI (j))), (4, .int (nI (b))), (0, .ref 176), (1, .int (nI (i))), (2, .int (nI (rTb u))), (3, .int (nI (k)))]) (sba_p [1, 2, 3, 4, 5, 6, 7] rfl rfl) ?_
        exact H
      · skip
        refine w_p (pc1 := 31) rfl rfl ?_
        refine w_p (pc1 := 32) rfl rfl ?_
        refine w_m0 (pc1 := 35) rfl rfl (h_gC rfl rfl rfl rfl) rfl ?_
        refine w_p (pc1 := 36) rfl rfl ?_
        refine w_m0 (pc1 := 37) (st1 := .int (nI ((rCs u).length)) :: _) rfl rfl (n_ile (e := i) rfl rfl rfl (by omega) (U.1.2.2.2.1)) rfl ?_
        refine w_f (a := 100) (b := 40) (bN_ge_f (a := pre.length) (b := (rCs u).length) (by omega) (by omega) (by omega)) rfl rfl ?_
        refine w_p (pc1 := 42) rfl rfl ?_
        refine w_f (a := 100) (b := 45) rfl rfl rfl ?_
        refine w_p (pc1 := 46) rfl rfl ?_
        refine w_p (pc1 := 48) rfl rfl ?_
        refine w_p (pc1 := 50) rfl rfl ?_
        refine w_p (pc1 := 51) rfl rfl ?_
        refine w_m0 (pc1 := 54) rfl rfl (h_gC rfl rfl rfl rfl) rfl ?_
        refine w_p (pc1 := 56) (st1 := .int 6 :: _) rfl rfl ?_
        refine w_p (pc1 := 57) rfl rfl ?_
        refine w_imul (pc1 := 58) (u := nI (6)) (v := nI (i)) (z := nI (6 * i)) rfl (nK_mul) rfl ?_
        refine w_p (pc1 := 60) rfl rfl ?_
        refine w_iadd (pc1 := 61) (u := nI (6 * i)) (v := nI (pre.length)) (z := nI (6 * i + (pre.length))) rfl (nK_add) rfl ?_
        refine w_m0 (pc1 := 62) (st1 := .int (nI (e)) :: _) rfl rfl (n_ile (e := 6 * i + (pre.length)) rfl rfl rfl (by omega) (hf2)) rfl ?_
        refine w_je (pc1 := 65) (vs := [.ref 176, .int (nI (b)), .int (nI (j)), .int (nI (e))]) (rest := []) (st1 := [.long (e_V (q.2 e))]) (hm2) rfl rfl rfl (fun _ _ => rfl) rfl (by exact cl_v my_263 rfl rfl rfl (Nat.le_of_ble_eq_true rfl) rfl (MH_obj rfl rfl) rfl (by decide) rfl rfl) (by rfl) (Nat.le_of_ble_eq_true rfl) (Nat.le_of_ble_eq_true rfl) rfl (by rfl) ?_
        refine w_p (pc1 := 66) rfl rfl ?_
        refine w_p (pc1 := 67) rfl rfl ?_
        refine w_p (pc1 := 68) rfl rfl ?_
        refine w_p (pc1 := 69) rfl rfl ?_
        refine w_m0 (pc1 := 72) rfl rfl (h_gC rfl rfl rfl rfl) rfl ?_
        refine w_p (pc1 := 74) (st1 := .int 6 :: _) rfl rfl ?_
        refine w_p (pc1 := 75) rfl rfl ?_
        refine w_imul (pc1 := 76) (u := nI (6)) (v := nI (i)) (z := nI (6 * i)) rfl (nK_mul) rfl ?_
        refine w_p (pc1 := 78) rfl rfl ?_
        refine w_iadd (pc1 := 79) (u := nI (6 * i)) (v := nI (pre.length)) (z := nI (6 * i + (pre.length))) rfl (nK_add) rfl ?_
        refine w_m0 (pc1 := 80) (st1 := .int (nI (c)) :: _) rfl rfl (n_ile (e := 6 * i + (pre.length)) rfl rfl rfl (by omega) (hf)) rfl ?_
        refine w_je (pc1 := 83) (vs := [.ref 176, .int (nI (rTb u)), .int (nI (k)), .int (nI (c))]) (rest := [.long (e_V (q.2 e))]) (st1 := [.long (e_V (r.2 c)), .long (e_V (q.2 e))]) (hm) rfl rfl rfl (fun _ _ => rfl) rfl (by exact cl_v my_263 rfl rfl rfl (Nat.le_of_ble_eq_true rfl) rfl (MH_obj rfl rfl) rfl (by decide) rfl rfl) (by rfl) (Nat.le_of_ble_eq_true rfl) (Nat.le_of_ble_eq_true rfl) rfl (by rfl) ?_
        refine w_p (pc1 := 84) rfl rfl ?_
        refine w_t (a := 91) (b := 87) (lb_ne_t (by exact fun z => hx (e_V_inj z).symm)) rfl rfl ?_
        refine w_p (pc1 := 92) (st1 := .int 0 :: _) rfl rfl ?_
        refine w_p (pc1 := 94) (al1 := [(6, .int 0), (7, .int (nI (pre.length))), (5, .int (nI (j))), (4, .int (nI (b))), (0, .ref 176), (1, .int (nI (i))), (2, .int (nI (rTb u))), (3, .int (nI (k)))]) rfl rfl ?_
        refine w_iinc (pc1 := 97) (u := nI (pre.length)) (z := nI (pre.length + 1)) (al1 := [(7, .int (nI (pre.length + 1))), (6, .int 0), (5, .int (nI (j))), (4, .int (nI (b))), (0, .ref 176), (1, .int (nI (i))), (2, .int (nI (rTb u))), (3, .int (nI (k)))]) rfl rfl rfl nK_1 rfl rfl ?_
        refine w_p (pc1 := 29) rfl rfl ?_
        refine w_p (pc1 := 31) rfl rfl ?_
        refine w_p (pc1 := 32) rfl rfl ?_
        refine w_m0 (pc1 := 35) rfl rfl (h_gC rfl rfl rfl rfl) rfl ?_
        refine w_p (pc1 := 36) rfl rfl ?_
        refine w_m0 (pc1 := 37) (st1 := .int (nI ((rCs u).length)) :: _) rfl rfl (n_ile (e := i) rfl rfl rfl (by omega) (U.1.2.2.2.1)) rfl ?_
        refine w_t (a := 100) (b := 40) (bN_ge_t (a := pre.length + 1) (b := (rCs u).length) (by omega) (by omega) (by omega)) rfl rfl ?_
        refine Wd_al (al := [(6, .int 0), (5, .int (nI (j))), (4, .int (nI (b))), (0, .ref 176), (1, .int (nI (i))), (2, .int (nI (rTb u))), (3, .int (nI (k)))]) (sba_p [1, 2, 3, 4, 5, 6, 7] rfl rfl) ?_
        exact H
set_option maxRecDepth 100000 in
theorem lp_276 (W : RWM C wd rs) (U : RUM C i u) (hi : i < 24) (hR : okR wd u) (hb1 : rTg u = some b) (hb2 : b < 6) (hb3 : ∀ c, c ∈ rOs u → c < wd b) (hll : (rOs u).length = (rCs u).length) (hr : (rs (rTb u)).1[k]? = some r) : ∀ (suf pre : List ro_T), pre ++ suf = (rs b).1 → Wd L xs (d + 1) y_276 (11, [(5, .int (nI (pre.length))), (4, .int (nI (b))), (0, .ref 176), (1, .int (nI (i))), (2, .int (nI (rTb u))), (3, .int (nI (k)))], [], MH C t, sl) (Rt (some (.int (ck (suf.any (fun q => alk (rCs u) (rOs u) r.2 q.2))))) (MH C t) sl) nX
  | [], pre, hp => by
    rw [List.append_nil] at hp
    have hl := congrArg List.length hp
    have h41 := (W _ hb2).2.2.1
    refine w_p (pc1 := 13) rfl rfl ?_
    refine w_p (pc1 := 14) rfl rfl ?_
    refine w_m0 (pc1 := 17) rfl rfl (h_gC rfl rfl rfl rfl) rfl ?_
    refine w_p (pc1 := 19) rfl rfl ?_
    refine w_m0 (pc1 := 20) (st1 := .int (nI ((rs b).1.length)) :: _) rfl rfl (n_ile (e := b) rfl rfl rfl (by omega) ((W b hb2).2.1)) rfl ?_
    refine w_t (a := 113) (b := 23) (bN_ge_t (a := pre.length) (b := (rs b).1.length) (by omega) (by omega) (by omega)) rfl rfl ?_
    refine w_p (pc1 := 114) (st1 := .int 0 :: _) rfl rfl ?_
    refine w_r rfl rfl rfl (fun _ _ => rfl) rfl ?_
    exact ⟨rfl, rfl, rfl⟩
  | q :: suf, pre, hp => by
    obtain ⟨h1, h2, h3⟩ := get_ap hp
    have h41 := (W _ hb2).2.2.1
    have ih := lp_276 W U hi hR hb1 hb2 hb3 hll hr suf (pre ++ [q]) h3
    rw [len_s] at ih
    rw [List.any_cons]
    cases hx : alk (rCs u) (rOs u) r.2 q.2 with
    | true =>
      refine w_p (pc1 := 13) rfl rfl ?_
      refine w_p (pc1 := 14) rfl rfl ?_
      refine w_m0 (pc1 := 17) rfl rfl (h_gC rfl rfl rfl rfl) rfl ?_
      refine w_p (pc1 := 19) rfl rfl ?_
      refine w_m0 (pc1 := 20) (st1 := .int (nI ((rs b).1.length)) :: _) rfl rfl (n_ile (e := b) rfl rfl rfl (by omega) ((W b hb2).2.1)) rfl ?_
      refine w_f (a := 113) (b := 23) (bN_ge_f (a := pre.length) (b := (rs b).1.length) (by omega) (by omega) (by omega)) rfl rfl ?_
      refine w_p (pc1 := 24) (st1 := .int 1 :: _) rfl rfl ?_
      refine w_p (pc1 := 26) (al1 := [(6, .int 1), (5, .int (nI (pre.length))), (4, .int (nI (b))), (0, .ref 176), (1, .int (nI (i))), (2, .int (nI (rTb u))), (3, .int (nI (k)))]) rfl rfl ?_
      refine w_p (pc1 := 27) (st1 := .int 0 :: _) rfl rfl ?_
      refine w_p (pc1 := 29) (al1 := [(7, .int 0), (6, .int 1), (5, .int (nI (pre.length))), (4, .int (nI (b))), (0, .ref 176), (1, .int (nI (i))), (2, .int (nI (rTb u))), (3, .int (nI (k)))]) rfl rfl ?_
      refine lp_276i W U hi hR hb1 hb2 hb3 hll hr h1 (rCs u) [] (rOs u) [] rfl rfl rfl ?_
      rw [hx]
      refine w_p (pc1 := 102) rfl rfl ?_
      refine w_f (a := 107) (b := 105) rfl rfl rfl ?_
      refine w_p (pc1 := 106) (st1 := .int 1 :: _) rfl rfl ?_
      refine w_r rfl rfl rfl (fun _ _ => rfl) rfl ?_
      exact ⟨rfl, rfl, rfl⟩
    | false =>
      refine w_p (pc1 := 13) rfl rfl ?_
      refine w_p (pc1 := 14) rfl rfl ?_
      refine w_m0 (pc1 := 17) rfl rfl (h_gC rfl rfl rfl rfl) rfl ?_
      refine w_p (pc1 := 19) rfl rfl ?_
      refine w_m0 (pc1 := 20) (st1 := .int (nI ((rs b).1.length)) :: _) rfl rfl (n_ile (e := b) rfl rfl rfl (by omega) ((W b hb2).2.1)) rfl ?_
      refine w_f (a := 113) (b := 23) (bN_ge_f (a := pre.length) (b := (rs b).1.length) (by omega) (by omega) (by omega)) rfl rfl ?_
      refine w_p (pc1 := 24) (st1 := .int 1 :: _) rfl rfl ?_
      refine w_p (pc1 := 26) (al1 := [(6, .int 1), (5, .int (nI (pre.length))), (4, .int (nI (b))), (0, .ref 176), (1, .int (nI (i))), (2, .int (nI (rTb u))), (3, .int (nI (k)))]) rfl rfl ?_
      refine w_p (pc1 := 27) (st1 := .int 0 :: _) rfl rfl ?_
      refine w_p (pc1 := 29) (al1 := [(7, .int 0), (6, .int 1), (5, .int (nI (pre.length))), (4, .int (nI (b))), (0, .ref 176), (1, .int (nI (i))), (2, .int (nI (rTb u))), (3, .int (nI (k)))]) rfl rfl ?_
      refine lp_276i W U hi hR hb1 hb2 hb3 hll hr h1 (rCs u) [] (rOs u) [] rfl rfl rfl ?_
      rw [hx]
      refine w_p (pc1 := 102) rfl rfl ?_
      refine w_t (a := 107) (b := 105) rfl rfl rfl ?_
      refine w_iinc (pc1 := 110) (u := nI (pre.length)) (z := nI (pre.length + 1)) (al1 := [(5, .int (nI (pre.length + 1))), (6, .int 0), (4, .int (nI (b))), (0, .ref 176), (1, .int (nI (i))), (2, .int (nI (rTb u))), (3, .int (nI (k)))]) rfl rfl rfl nK_1 rfl rfl ?_
      refine w_p (pc1 := 11) rfl rfl ?_
      refine Wd_al (al := [(5, .int (nI (pre.length + 1))), (4, .int (nI (b))), (0, .ref 176), (1, .int (nI (i))), (2, .int (nI (rTb u))), (3, .int (nI (k)))]) (sba_p [0, 2, 3, 4, 5, 6] rfl rfl) ?_
      exact ih
set_option maxRecDepth 100000 in
theorem m_276 (W : RWM C wd rs) (U : RUM C i u) (hi : i < 24) (hR : okR wd u) (hb1 : rTg u = some b) (hb2 : b < 6) (hb3 : ∀ c, c ∈ rOs u → c < wd b) (hll : (rOs u).length = (rCs u).length) (hr : (rs (rTb u)).1[k]? = some r) : Wd L xs (d + 1) y_276 (0, [(0, .ref 176), (1, .int (nI (i))), (2, .int (nI (rTb u))), (3, .int (nI (k)))], [], MH C t, sl) (Rt (some (.int (ck ((rs b).1.any (fun q => alk (rCs u) (rOs u) r.2 q.2))))) (MH C t) sl) nX := by
  have ht := U.1.2.2.1
  rw [hb1] at ht
  refine w_p (pc1 := 1) rfl rfl ?_
  refine w_m0 (pc1 := 4) rfl rfl (h_gC rfl rfl rfl rfl) rfl ?_
  refine w_p (pc1 := 5) rfl rfl ?_
  refine w_m0 (pc1 := 6) (st1 := .int (nI (b)) :: _) rfl rfl (n_ile (e := i) rfl rfl rfl (by omega) (ht)) rfl ?_
  refine w_p (pc1 := 8) (al1 := [(4, .int (nI (b))), (0, .ref 176), (1, .int (nI (i))), (2, .int (nI (rTb u))), (3, .int (nI (k)))]) rfl rfl ?_
  refine w_p (pc1 := 9) (st1 := .int 0 :: _) rfl rfl ?_
  refine w_p (pc1 := 11) (al1 := [(5, .int 0), (4, .int (nI (b))), (0, .ref 176), (1, .int (nI (i))), (2, .int (nI (rTb u))), (3, .int (nI (k)))]) rfl rfl ?_
  exact lp_276 W U hi hR hb1 hb2 hb3 hll hr (rs b).1 [] rfl
set_option maxRecDepth 100000 in
theorem lp_275 (W : RWM C wd rs) (U : RUM C i u) (hi : i < 24) (hR : okR wd u) (hr : (rs (rTb u)).1[k]? = some r) {P : Option Value → ab_H → Nat → Prop} {X : Nat → ab_H → Nat → Prop} : ∀ (suf pre : List Nat) (g : Bool), pre ++ suf = rCs u → Wd L xs (d + 4) y_275 (67, [(4, .int (ck (g || nul suf r.2))), (3, .int (nI (rTb u))), (0, .ref 176), (1, .int (nI (i))), (2, .int (nI (k)))], [], MH C t, sl) P X → Wd L xs (d + 4) y_275 (13, [(5, .int (nI (pre.length))), (4, .int (ck g)), (3, .int (nI (rTb u))), (0, .ref 176), (1, .int (nI (i))), (2, .int (nI (k)))], [], MH C t, sl) P X
  | [], pre, g, hp, H => by
    rw [List.append_nil] at hp
    have hl := congrArg List.length hp
    have hb := hR.1.2.1
    have h6 := hR.1.2.2.1
    have h40 := (W _ hb).2.2.1
    have w6 := (W _ hb).1
    have e0 : (g || nul [] r.2) = g := by cases g <;> rfl
    rw [e0] at H
    refine w_p (pc1 := 15) rfl rfl ?_
    refine w_p (pc1 := 16) rfl rfl ?_
    refine w_m0 (pc1 := 19) rfl rfl (h_gC rfl rfl rfl rfl) rfl ?_
    refine w_p (pc1 := 20) rfl rfl ?_
    refine w_m0 (pc1 := 21) (st1 := .int (nI ((rCs u).length)) :: _) rfl rfl (n_ile (e := i) rfl rfl rfl (by omega) (U.1.2.2.2.1)) rfl ?_
    refine w_t (a := 67) (b := 24) (bN_ge_t (a := pre.length) (b := (rCs u).length) (by omega) (by omega) (by omega)) rfl rfl ?_
    refine Wd_al (al := [(4, .int (ck g)), (3, .int (nI (rTb u))), (0, .ref 176), (1, .int (nI (i))), (2, .int (nI (k)))]) (sba_p [1, 2, 3, 4, 5] rfl rfl) ?_
    exact H
  | c :: suf, pre, g, hp, H => by
    obtain ⟨h1, h2, h3⟩ := get_ap hp
    have hb := hR.1.2.1
    have h6 := hR.1.2.2.1
    have h40 := (W _ hb).2.2.1
    have w6 := (W _ hb).1
    have hf := U.1.2.2.2.2.1 _ _ h1
    have hcw := hR.1.2.2.2 c (List.mem_of_getElem? h1)
    have hk := get_lt hr
    have hm := cellM (L := L) (xs := xs) (t := t) (d := d + 3) (sl := 0) W hb hr hcw
    have ih := fun g' H' => lp_275 W U hi hR hr (P := P) (X := X) suf (pre ++ [c]) g' h3 H'
    rw [len_s] at ih
    have e0 : nul (c :: suf) r.2 = (decide (r.2 c = none) || nul suf r.2) := rfl
    rw [e0] at H
    cases g with
    | true =>
      have e1 : (true || (decide (r.2 c = none) || nul suf r.2)) = (true || nul suf r.2) := rfl
      rw [e1] at H
      refine w_p (pc1 := 15) rfl rfl ?_
      refine w_p (pc1 := 16) rfl rfl ?_
      refine w_m0 (pc1 := 19) rfl rfl (h_gC rfl rfl rfl rfl) rfl ?_
      refine w_p (pc1 := 20) rfl rfl ?_
      refine w_m0 (pc1 := 21) (st1 := .int (nI ((rCs u).length)) :: _) rfl rfl (n_ile (e := i) rfl rfl rfl (by omega) (U.1.2.2.2.1)) rfl ?_
      refine w_f (a := 67) (b := 24) (bN_ge_f (a := pre.length) (b := (rCs u).length) (by omega) (by omega) (by omega)) rfl rfl ?_
      refine w_p (pc1 := 26) rfl rfl ?_
      refine w_t (a := 54) (b := 29) rfl rfl rfl ?_
      refine w_p (pc1 := 55) (st1 := .int 1 :: _) rfl rfl ?_
      refine w_p (pc1 := 59) rfl rfl ?_
      refine w_p (pc1 := 61) (al1 := [(4, .int 1), (5, .int (nI (pre.length))), (3, .int (nI (rTb u))), (0, .ref 176), (1, .int (nI (i))), (2, .int (nI (k)))]) rfl rfl ?_
      refine w_iinc (pc1 := 64) (u := nI (pre.length)) (z := nI (pre.length + 1)) (al1 := [(5, .int (nI (pre.length + 1))), (4, .int 1), (3, .int (nI (rTb u))), (0, .ref 176), (1, .int (nI (i))), (2, .int (nI (k)))]) rfl rfl rfl nK_1 rfl rfl ?_
      refine w_p (pc1 := 13) rfl rfl ?_
      exact ih true H
    | false =>
      cases hx : r.2 c with
      | none =>
        rw [hx] at H hm
        have e1 : (false || (decide ((none : Option Int32) = none) || nul suf r.2)) = (true || nul suf r.2) := rfl
        rw [e1] at H
        refine w_p (pc1 := 15) rfl rfl ?_
        refine w_p (pc1 := 16) rfl rfl ?_
        refine w_m0 (pc1 := 19) rfl rfl (h_gC rfl rfl rfl rfl) rfl ?_
        refine w_p (pc1 := 20) rfl rfl ?_
        refine w_m0 (pc1 := 21) (st1 := .int (nI ((rCs u).length)) :: _) rfl rfl (n_ile (e := i) rfl rfl rfl (by omega) (U.1.2.2.2.1)) rfl ?_
        refine w_f (a := 67) (b := 24) (bN_ge_f (a := pre.length) (b := (rCs u).length) (by omega) (by omega) (by omega)) rfl rfl ?_
        refine w_p (pc1 := 26) rfl rfl ?_
        refine w_f (a := 54) (b := 29) rfl rfl rfl ?_
        refine w_p (pc1 := 30) rfl rfl ?_
        refine w_p (pc1 := 31) rfl rfl ?_
        refine w_p (pc1 := 32) rfl rfl ?_
        refine w_p (pc1 := 33) rfl rfl ?_
        refine w_m0 (pc1 := 36) rfl rfl (h_gC rfl rfl rfl rfl) rfl ?_
        refine w_p (pc1 := 38) (st1 := .int 6 :: _) rfl rfl ?_
        refine w_p (pc1 := 39) rfl rfl ?_
        refine w_imul (pc1 := 40) (u := nI (6)) (v := nI (i)) (z := nI (6 * i)) rfl (nK_mul) rfl ?_
        refine w_p (pc1 := 42) rfl rfl ?_
        refine w_iadd (pc1 := 43) (u := nI (6 * i)) (v := nI (pre.length)) (z := nI (6 * i + (pre.length))) rfl (nK_add) rfl ?_
        refine w_m0 (pc1 := 44) (st1 := .int (nI (c)) :: _) rfl rfl (n_ile (e := 6 * i + (pre.length)) rfl rfl rfl (by omega) (hf)) rfl ?_
        refine w_je (pc1 := 47) (vs := [.ref 176, .int (nI (rTb u)), .int (nI (k)), .int (nI (c))]) (rest := []) (st1 := [.long (e_V none)]) (hm) rfl rfl rfl (fun _ _ => rfl) rfl (by exact cl_v my_263 rfl rfl rfl (Nat.le_of_ble_eq_true rfl) rfl (MH_obj rfl rfl) rfl (by decide) rfl rfl) (by rfl) (Nat.le_of_ble_eq_true rfl) (Nat.le_of_ble_eq_true rfl) rfl (by rfl) ?_
        refine w_m0 (pc1 := 50) (st1 := .long (-9223372036854775808) :: _) rfl rfl rfl rfl ?_
        refine w_p (pc1 := 51) rfl rfl ?_
        refine w_f (a := 58) (b := 54) (lb_ne_f (by rfl)) rfl rfl ?_
        refine w_p (pc1 := 55) (st1 := .int 1 :: _) rfl rfl ?_
        refine w_p (pc1 := 59) rfl rfl ?_
        refine w_p (pc1 := 61) (al1 := [(4, .int 1), (5, .int (nI (pre.length))), (3, .int (nI (rTb u))), (0, .ref 176), (1, .int (nI (i))), (2, .int (nI (k)))]) rfl rfl ?_
        refine w_iinc (pc1 := 64) (u := nI (pre.length)) (z := nI (pre.length + 1)) (al1 := [(5, .int (nI (pre.length + 1))), (4, .int 1), (3, .int (nI (rTb u))), (0, .ref 176), (1, .int (nI (i))), (2, .int (nI (k)))]) rfl rfl rfl nK_1 rfl rfl ?_
        refine w_p (pc1 := 13) rfl rfl ?_
        exact ih true H
      | some x =>
        rw [hx] at H hm
        have e1 : (false || (decide (some x = none) || nul suf r.2)) = (false || nul suf r.2) := by rw [decide_eq_false (by intro z; cases z)]; rfl
        rw [e1] at H
        refine w_p (pc1 := 15) rfl rfl ?_
        refine w_p (pc1 := 16) rfl rfl ?_
        refine w_m0 (pc1 := 19) rfl rfl (h_gC rfl rfl rfl rfl) rfl ?_
        refine w_p (pc1 := 20) rfl rfl ?_
        refine w_m0 (pc1 := 21) (st1 := .int (nI ((rCs u).length)) :: _) rfl rfl (n_ile (e := i) rfl rfl rfl (by omega) (U.1.2.2.2.1)) rfl ?_
        refine w_f (a := 67) (b := 24) (bN_ge_f (a := pre.length) (b := (rCs u).length) (by omega) (by omega) (by omega)) rfl rfl ?_
        refine w_p (pc1 := 26) rfl rfl ?_
        refine w_f (a := 54) (b := 29) rfl rfl rfl ?_
        refine w_p (pc1 := 30) rfl rfl ?_
        refine w_p (pc1 := 31) rfl rfl ?_
        refine w_p (pc1 := 32) rfl rfl ?_
        refine w_p (pc1 := 33) rfl rfl ?_
        refine w_m0 (pc1 := 36) rfl rfl (h_gC rfl rfl rfl rfl) rfl ?_
        refine w_p (pc1 := 38) (st1 := .int 6 :: _) rfl rfl ?_
        refine w_p (pc1 := 39) rfl rfl ?_
        refine w_imul (pc1 := 40) (u := nI (6)) (v := nI (i)) (z := nI (6 * i)) rfl (nK_mul) rfl ?_
        refine w_p (pc1 := 42) rfl rfl ?_
        refine w_iadd (pc1 := 43) (u := nI (6 * i)) (v := nI (pre.length)) (z := nI (6 * i + (pre.length))) rfl (nK_add) rfl ?_
        refine w_m0 (pc1 := 44) (st1 := .int (nI (c)) :: _) rfl rfl (n_ile (e := 6 * i + (pre.length)) rfl rfl rfl (by omega) (hf)) rfl ?_
        refine w_je (pc1 := 47) (vs := [.ref 176, .int (nI (rTb u)), .int (nI (k)), .int (nI (c))]) (rest := []) (st1 := [.long (e_V (some x))]) (hm) rfl rfl rfl (fun _ _ => rfl) rfl (by exact cl_v my_263 rfl rfl rfl (Nat.le_of_ble_eq_true rfl) rfl (MH_obj rfl rfl) rfl (by decide) rfl rfl) (by rfl) (Nat.le_of_ble_eq_true rfl) (Nat.le_of_ble_eq_true rfl) rfl (by rfl) ?_
        refine w_m0 (pc1 := 50) (st1 := .long (-9223372036854775808) :: _) rfl rfl rfl rfl ?_
        refine w_p (pc1 := 51) rfl rfl ?_
        refine w_t (a := 58) (b := 54) (lb_ne_t (by exact e_V_ne x)) rfl rfl ?_
        refine w_p (pc1 := 59) (st1 := .int 0 :: _) rfl rfl ?_
        refine w_p (pc1 := 61) (al1 := [(4, .int 0), (5, .int (nI (pre.length))), (3, .int (nI (rTb u))), (0, .ref 176), (1, .int (nI (i))), (2, .int (nI (k)))]) rfl rfl ?_
        refine w_iinc (pc1 := 64) (u := nI (pre.length)) (z := nI (pre.length + 1)) (al1 := [(5, .int (nI (pre.length + 1))), (4, .int 0), (3, .int (nI (rTb u))), (0, .ref 176), (1, .int (nI (i))), (2, .int (nI (k)))]) rfl rfl rfl nK_1 rfl rfl ?_
        refine w_p (pc1 := 13) rfl rfl ?_
        exact ih false H
set_option maxRecDepth 100000 in
theorem lp_275k (W : RWM C wd rs) (U : RUM C i u) (hi : i < 24) (hR : okR wd u) (hr : (rs (rTb u)).1[k]? = some r) : ∀ (suf pre : List ro_T), pre ++ suf = (rs (rTb u)).1.take k → Wd L xs (d + 4) y_275 (173, [(5, .int (nI (pre.length))), (4, .int 0), (3, .int (nI (rTb u))), (0, .ref 176), (1, .int (nI (i))), (2, .int (nI (k)))], [], MH C t, sl) (Rt (some (.int (ck (suf.any (fun q => alk (rCs u) (rCs u) r.2 q.2))))) (MH C t) sl) nX
  | [], pre, hp => by
    rw [List.append_nil] at hp
    have hl := congrArg List.length hp
    rw [List.length_take] at hl
    have hb := hR.1.2.1
    have h6 := hR.1.2.2.1
    have h40 := (W _ hb).2.2.1
    have w6 := (W _ hb).1
    have hk := get_lt hr
    refine w_p (pc1 := 175) rfl rfl ?_
    refine w_p (pc1 := 176) rfl rfl ?_
    refine w_t (a := 199) (b := 179) (bN_ge_t (a := pre.length) (b := k) (by omega) (by omega) (by omega)) rfl rfl ?_
    refine w_p (pc1 := 200) (st1 := .int 0 :: _) rfl rfl ?_
    refine w_r rfl rfl rfl (fun _ _ => rfl) rfl ?_
    exact ⟨rfl, rfl, rfl⟩
  | q :: suf, pre, hp => by
    obtain ⟨h1, h2, h3⟩ := get_ap hp
    rw [List.length_take] at h2
    have hb := hR.1.2.1
    have h6 := hR.1.2.2.1
    have h40 := (W _ hb).2.2.1
    have w6 := (W _ hb).1
    have hk := get_lt hr
    have hq : (rs (rTb u)).1[pre.length]? = some q := by
      rw [List.getElem?_take] at h1
      split at h1
      · exact h1
      · cases h1
    have ih := lp_275k W U hi hR hr suf (pre ++ [q]) h3
    rw [len_s] at ih
    have hm := m_277 (L := L) (xs := xs) (t := t) (d := d + 2) (sl := 0) W U hi hR hq hr
    rw [List.any_cons]
    cases hx : alk (rCs u) (rCs u) r.2 q.2 with
    | true =>
      rw [hx] at hm
      refine w_p (pc1 := 175) rfl rfl ?_
      refine w_p (pc1 := 176) rfl rfl ?_
      refine w_f (a := 199) (b := 179) (bN_ge_f (a := pre.length) (b := k) (by omega) (by omega) (by omega)) rfl rfl ?_
      refine w_p (pc1 := 180) rfl rfl ?_
      refine w_p (pc1 := 181) rfl rfl ?_
      refine w_p (pc1 := 183) rfl rfl ?_
      refine w_p (pc1 := 184) rfl rfl ?_
      refine w_p (pc1 := 185) rfl rfl ?_
      refine w_je (pc1 := 188) (vs := [.ref 176, .int (nI (rTb u)), .int (nI (pre.length)), .int (nI (k)), .int (nI (i))]) (rest := []) (st1 := [.int 1]) (hm) rfl rfl rfl (fun _ _ => rfl) rfl (by exact cl_v my_277 rfl rfl rfl (Nat.le_of_ble_eq_true rfl) rfl (MH_obj rfl rfl) rfl (by decide) rfl rfl) (by rfl) (Nat.le_of_ble_eq_true rfl) (Nat.le_of_ble_eq_true rfl) rfl (by rfl) ?_
      refine w_f (a := 193) (b := 191) rfl rfl rfl ?_
      refine w_p (pc1 := 192) (st1 := .int 1 :: _) rfl rfl ?_
      refine w_r rfl rfl rfl (fun _ _ => rfl) rfl ?_
      exact ⟨rfl, rfl, rfl⟩
    | false =>
      rw [hx] at hm
      refine w_p (pc1 := 175) rfl rfl ?_
      refine w_p (pc1 := 176) rfl rfl ?_
      refine w_f (a := 199) (b := 179) (bN_ge_f (a := pre.length) (b := k) (by omega) (by omega) (by omega)) rfl rfl ?_
      refine w_p (pc1 := 180) rfl rfl ?_
      refine w_p (pc1 := 181) rfl rfl ?_
      refine w_p (pc1 := 183) rfl rfl ?_
      refine w_p (pc1 := 184) rfl rfl ?_
      refine w_p (pc1 := 185) rfl rfl ?_
      refine w_je (pc1 := 188) (vs := [.ref 176, .int (nI (rTb u)), .int (nI (pre.length)), .int (nI (k)), .int (nI (i))]) (rest := []) (st1 := [.int 0]) (hm) rfl rfl rfl (fun _ _ => rfl) rfl (by exact cl_v my_277 rfl rfl rfl (Nat.le_of_ble_eq_true rfl) rfl (MH_obj rfl rfl) rfl (by decide) rfl rfl) (by rfl) (Nat.le_of_ble_eq_true rfl) (Nat.le_of_ble_eq_true rfl) rfl (by rfl) ?_
      refine w_t (a := 193) (b := 191) rfl rfl rfl ?_
      refine w_iinc (pc1 := 196) (u := nI (pre.length)) (z := nI (pre.length + 1)) (al1 := [(5, .int (nI (pre.length + 1))), (4, .int 0), (3, .int (nI (rTb u))), (0, .ref 176), (1, .int (nI (i))), (2, .int (nI (k)))]) rfl rfl rfl nK_1 rfl rfl ?_
      refine w_p (pc1 := 173) rfl rfl ?_
      exact ih
def BM (C : co_T) (t : ab_H) (sl : Nat) (x : Int32) : Option Value → ab_H → Nat → Prop := fun v h m => some (.int x) = v ∧ (∃ C', frZ C C' ∧ MH C' t = h) ∧ sl = m
set_option maxRecDepth 100000 in
theorem BM_i {x : Int32} : BM C t sl x (some (.int x)) (MH C t) sl := ⟨rfl, ⟨C, frZ_r, rfl⟩, rfl⟩
set_option maxRecDepth 100000 in
theorem BM_f {C1 : co_T} {x : Int32} (h : frZ C C1) : ∀ v h m, BM C1 t sl x v h m → BM C t sl x v h m := fun v h' m ⟨e1, ⟨t', e2, e3⟩, e4⟩ => ⟨e1, ⟨t', frZ_t h e2, e3⟩, e4⟩
set_option maxRecDepth 100000 in
theorem m_275 (W : RWM C wd rs) (U : RUM C i u) (hi : i < 24) (hR : okR wd u) (hr : (rs (rTb u)).1[k]? = some r) {z : Bool} (hz : C.1 76 74 = ck z) : Wd L xs (d + 4) y_275 (0, [(0, .ref 176), (1, .int (nI (i))), (2, .int (nI (k)))], [], MH C t, sl) (BM C t sl (ck (brk u rs k r))) nX := by
  have hb := hR.1.2.1
  have h6 := hR.1.2.2.1
  have h40 := (W _ hb).2.2.1
  have w6 := (W _ hb).1
  have hk := get_lt hr
  have hKd := U.1.1
  have h5 : rKd u = 0 ∨ rKd u = 1 ∨ rKd u = 2 ∨ rKd u = 3 ∨ rKd u = 4 := by have := hR.1.1; omega
  refine w_p (pc1 := 1) rfl rfl ?_
  refine w_m0 (pc1 := 4) rfl rfl (h_gC rfl rfl rfl rfl) rfl ?_
  refine w_p (pc1 := 5) rfl rfl ?_
  refine w_m0 (pc1 := 6) (st1 := .int (nI (rTb u)) :: _) rfl rfl (n_ile (e := i) rfl rfl rfl (by omega) (U.1.2.1)) rfl ?_
  refine w_p (pc1 := 7) (al1 := [(3, .int (nI (rTb u))), (0, .ref 176), (1, .int (nI (i))), (2, .int (nI (k)))]) rfl rfl ?_
  refine w_p (pc1 := 8) (st1 := .int 0 :: _) rfl rfl ?_
  refine w_p (pc1 := 10) (al1 := [(4, .int 0), (3, .int (nI (rTb u))), (0, .ref 176), (1, .int (nI (i))), (2, .int (nI (k)))]) rfl rfl ?_
  refine w_p (pc1 := 11) (st1 := .int 0 :: _) rfl rfl ?_
  refine w_p (pc1 := 13) (al1 := [(5, .int 0), (4, .int 0), (3, .int (nI (rTb u))), (0, .ref 176), (1, .int (nI (i))), (2, .int (nI (k)))]) rfl rfl ?_
  refine lp_275 W U hi hR hr (rCs u) [] false rfl ?_
  rw [Bool.false_or]
  rcases h5 with hK | hK | hK | hK | hK
  · rw [hK] at hKd
    have e0 : brk u rs k r = nul (rCs u) r.2 := by unfold brk; rw [hK]; rfl
    rw [e0]
    cases hx : nul (rCs u) r.2 with
    | true =>
      refine w_p (pc1 := 68) rfl rfl ?_
      refine w_m0 (pc1 := 71) rfl rfl (h_gC rfl rfl rfl rfl) rfl ?_
      refine w_p (pc1 := 72) rfl rfl ?_
      refine w_m0 (pc1 := 73) (st1 := .int 0 :: _) rfl rfl (n_ile (e := i) rfl rfl rfl (by omega) (hKd)) rfl ?_
      refine w_f (a := 79) (b := 76) rfl rfl rfl ?_
      refine w_p (pc1 := 78) rfl rfl ?_
      refine w_r rfl rfl rfl (fun _ _ => rfl) rfl ?_
      exact BM_i
    | false =>
      refine w_p (pc1 := 68) rfl rfl ?_
      refine w_m0 (pc1 := 71) rfl rfl (h_gC rfl rfl rfl rfl) rfl ?_
      refine w_p (pc1 := 72) rfl rfl ?_
      refine w_m0 (pc1 := 73) (st1 := .int 0 :: _) rfl rfl (n_ile (e := i) rfl rfl rfl (by omega) (hKd)) rfl ?_
      refine w_f (a := 79) (b := 76) rfl rfl rfl ?_
      refine w_p (pc1 := 78) rfl rfl ?_
      refine w_r rfl rfl rfl (fun _ _ => rfl) rfl ?_
      exact BM_i
  · rw [hK] at hKd
    have e0 : brk u rs k r = (nul (rCs u) r.2 || ((rs (rTb u)).1.take k).any (fun q => alk (rCs u) (rCs u) r.2 q.2)) := by unfold brk; rw [hK]; rfl
    rw [e0]
    cases hx : nul (rCs u) r.2 with
    | true =>
      refine w_p (pc1 := 68) rfl rfl ?_
      refine w_m0 (pc1 := 71) rfl rfl (h_gC rfl rfl rfl rfl) rfl ?_
      refine w_p (pc1 := 72) rfl rfl ?_
      refine w_m0 (pc1 := 73) (st1 := .int 1 :: _) rfl rfl (n_ile (e := i) rfl rfl rfl (by omega) (hKd)) rfl ?_
      refine w_t (a := 79) (b := 76) rfl rfl rfl ?_
      refine w_p (pc1 := 80) rfl rfl ?_
      refine w_m0 (pc1 := 83) rfl rfl (h_gC rfl rfl rfl rfl) rfl ?_
      refine w_p (pc1 := 84) rfl rfl ?_
      refine w_m0 (pc1 := 85) (st1 := .int 1 :: _) rfl rfl (n_ile (e := i) rfl rfl rfl (by omega) (hKd)) rfl ?_
      refine w_p (pc1 := 86) (st1 := .int 3 :: _) rfl rfl ?_
      refine w_t (a := 123) (b := 89) rfl rfl rfl ?_
      refine w_p (pc1 := 125) rfl rfl ?_
      refine w_f (a := 144) (b := 128) rfl rfl rfl ?_
      refine w_p (pc1 := 129) rfl rfl ?_
      refine w_m0 (pc1 := 132) rfl rfl (h_gC rfl rfl rfl rfl) rfl ?_
      refine w_p (pc1 := 133) rfl rfl ?_
      refine w_m0 (pc1 := 134) (st1 := .int 1 :: _) rfl rfl (n_ile (e := i) rfl rfl rfl (by omega) (hKd)) rfl ?_
      refine w_p (pc1 := 135) (st1 := .int 1 :: _) rfl rfl ?_
      refine w_f (a := 142) (b := 138) rfl rfl rfl ?_
      refine w_p (pc1 := 139) (st1 := .int 1 :: _) rfl rfl ?_
      refine w_p (pc1 := 143) rfl rfl ?_
      refine w_r rfl rfl rfl (fun _ _ => rfl) rfl ?_
      exact BM_i
    | false =>
      refine w_p (pc1 := 68) rfl rfl ?_
      refine w_m0 (pc1 := 71) rfl rfl (h_gC rfl rfl rfl rfl) rfl ?_
      refine w_p (pc1 := 72) rfl rfl ?_
      refine w_m0 (pc1 := 73) (st1 := .int 1 :: _) rfl rfl (n_ile (e := i) rfl rfl rfl (by omega) (hKd)) rfl ?_
      refine w_t (a := 79) (b := 76) rfl rfl rfl ?_
      refine w_p (pc1 := 80) rfl rfl ?_
      refine w_m0 (pc1 := 83) rfl rfl (h_gC rfl rfl rfl rfl) rfl ?_
      refine w_p (pc1 := 84) rfl rfl ?_
      refine w_m0 (pc1 := 85) (st1 := .int 1 :: _) rfl rfl (n_ile (e := i) rfl rfl rfl (by omega) (hKd)) rfl ?_
      refine w_p (pc1 := 86) (st1 := .int 3 :: _) rfl rfl ?_
      refine w_t (a := 123) (b := 89) rfl rfl rfl ?_
      refine w_p (pc1 := 125) rfl rfl ?_
      refine w_t (a := 144) (b := 128) rfl rfl rfl ?_
      refine w_p (pc1 := 145) rfl rfl ?_
      refine w_m0 (pc1 := 148) rfl rfl (h_gC rfl rfl rfl rfl) rfl ?_
      refine w_p (pc1 := 149) rfl rfl ?_
      refine w_m0 (pc1 := 150) (st1 := .int 1 :: _) rfl rfl (n_ile (e := i) rfl rfl rfl (by omega) (hKd)) rfl ?_
      refine w_p (pc1 := 151) (st1 := .int 4 :: _) rfl rfl ?_
      refine w_t (a := 170) (b := 154) rfl rfl rfl ?_
      refine w_p (pc1 := 171) (st1 := .int 0 :: _) rfl rfl ?_
      refine w_p (pc1 := 173) (al1 := [(5, .int 0), (4, .int 0), (3, .int (nI (rTb u))), (0, .ref 176), (1, .int (nI (i))), (2, .int (nI (k)))]) rfl rfl ?_
      refine Wd_q (lp_275k W U hi hR hr ((rs (rTb u)).1.take k) [] rfl) (fun v h m hq => ?_) (fun _ _ _ e => e)
      obtain ⟨rfl, rfl, rfl⟩ := hq
      exact BM_i
  · rw [hK] at hKd
    have e0 : brk u rs k r = (!nul (rCs u) r.2 && ((rs (rTb u)).1.take k).any (fun q => alk (rCs u) (rCs u) r.2 q.2)) := by unfold brk; rw [hK]; rfl
    rw [e0]
    cases hx : nul (rCs u) r.2 with
    | true =>
      refine w_p (pc1 := 68) rfl rfl ?_
      refine w_m0 (pc1 := 71) rfl rfl (h_gC rfl rfl rfl rfl) rfl ?_
      refine w_p (pc1 := 72) rfl rfl ?_
      refine w_m0 (pc1 := 73) (st1 := .int 2 :: _) rfl rfl (n_ile (e := i) rfl rfl rfl (by omega) (hKd)) rfl ?_
      refine w_t (a := 79) (b := 76) rfl rfl rfl ?_
      refine w_p (pc1 := 80) rfl rfl ?_
      refine w_m0 (pc1 := 83) rfl rfl (h_gC rfl rfl rfl rfl) rfl ?_
      refine w_p (pc1 := 84) rfl rfl ?_
      refine w_m0 (pc1 := 85) (st1 := .int 2 :: _) rfl rfl (n_ile (e := i) rfl rfl rfl (by omega) (hKd)) rfl ?_
      refine w_p (pc1 := 86) (st1 := .int 3 :: _) rfl rfl ?_
      refine w_t (a := 123) (b := 89) rfl rfl rfl ?_
      refine w_p (pc1 := 125) rfl rfl ?_
      refine w_f (a := 144) (b := 128) rfl rfl rfl ?_
      refine w_p (pc1 := 129) rfl rfl ?_
      refine w_m0 (pc1 := 132) rfl rfl (h_gC rfl rfl rfl rfl) rfl ?_
      refine w_p (pc1 := 133) rfl rfl ?_
      refine w_m0 (pc1 := 134) (st1 := .int 2 :: _) rfl rfl (n_ile (e := i) rfl rfl rfl (by omega) (hKd)) rfl ?_
      refine w_p (pc1 := 135) (st1 := .int 1 :: _) rfl rfl ?_
      refine w_t (a := 142) (b := 138) rfl rfl rfl ?_
      refine w_p (pc1 := 143) (st1 := .int 0 :: _) rfl rfl ?_
      refine w_r rfl rfl rfl (fun _ _ => rfl) rfl ?_
      exact BM_i
    | false =>
      refine w_p (pc1 := 68) rfl rfl ?_
      refine w_m0 (pc1 := 71) rfl rfl (h_gC rfl rfl rfl rfl) rfl ?_
      refine w_p (pc1 := 72) rfl rfl ?_
      refine w_m0 (pc1 := 73) (st1 := .int 2 :: _) rfl rfl (n_ile (e := i) rfl rfl rfl (by omega) (hKd)) rfl ?_
      refine w_t (a := 79) (b := 76) rfl rfl rfl ?_
      refine w_p (pc1 := 80) rfl rfl ?_
      refine w_m0 (pc1 := 83) rfl rfl (h_gC rfl rfl rfl rfl) rfl ?_
      refine w_p (pc1 := 84) rfl rfl ?_
      refine w_m0 (pc1 := 85) (st1 := .int 2 :: _) rfl rfl (n_ile (e := i) rfl rfl rfl (by omega) (hKd)) rfl ?_
      refine w_p (pc1 := 86) (st1 := .int 3 :: _) rfl rfl ?_
      refine w_t (a := 123) (b := 89) rfl rfl rfl ?_
      refine w_p (pc1 := 125) rfl rfl ?_
      refine w_t (a := 144) (b := 128) rfl rfl rfl ?_
      refine w_p (pc1 := 145) rfl rfl ?_
      refine w_m0 (pc1 := 148) rfl rfl (h_gC rfl rfl rfl rfl) rfl ?_
      refine w_p (pc1 := 149) rfl rfl ?_
      refine w_m0 (pc1 := 150) (st1 := .int 2 :: _) rfl rfl (n_ile (e := i) rfl rfl rfl (by omega) (hKd)) rfl ?_
      refine w_p (pc1 := 151) (st1 := .int 4 :: _) rfl rfl ?_
      refine w_t (a := 170) (b := 154) rfl rfl rfl ?_
      refine w_p (pc1 := 171) (st1 := .int 0 :: _) rfl rfl ?_
      refine w_p (pc1 := 173) (al1 := [(5, .int 0), (4, .int 0), (3, .int (nI (rTb u))), (0, .ref 176), (1, .int (nI (i))), (2, .int (nI (k)))]) rfl rfl ?_
      refine Wd_q (lp_275k W U hi hR hr ((rs (rTb u)).1.take k) [] rfl) (fun v h m hq => ?_) (fun _ _ _ e => e)
      obtain ⟨rfl, rfl, rfl⟩ := hq
      exact BM_i
  · rw [hK] at hKd
    obtain ⟨hcs, O, hO, hO6, hOt⟩ := hR.2.2.2.1 hK
    obtain ⟨u1, u2, u3⟩ := U.2.2.1 O hO
    have e0 : brk u rs k r = decide (f_l true r.2 noF noF O [] = some [.inr (some false)]) := by unfold brk; rw [hK, hO]; rfl
    rw [e0]
    have hx : nul (rCs u) r.2 = false := by rw [hcs]; rfl
    rw [hx]
    obtain ⟨-, -, -, hcell⟩ := W _ hb
    have hE : envM C (6 * (40 * rTb u + k)) 0 (wd (rTb u)) 0 0 r.2 noF noF := ⟨⟨by omega, fun c hc => by rw [show 6 * (40 * rTb u + k) + c = (rTb u * 40 + k) * 6 + c by omega]; exact (hcell _ _ hr).2 c hc⟩, ⟨by decide, by decide, by decide⟩, fun c hc => absurd hc (by omega), fun c hc => absurd hc (by omega)⟩
    have hwk := m_251 (L := L) (xs := xs) (t := t) (d := d) (sl := 0) (g := true) (p := i) (a := 0) (e := O.length) (l := O) (by omega) (by omega) (by omega) u2 hE hOt hz
    obtain ⟨bv, hbv⟩ := fl_test (R := r.2) (N := noF) (O := noF) hOt
    rw [hbv]
    have hv : rsM (f_l true r.2 noF noF O []) = t_M bv := by rw [hbv]; rfl
    rcases bv with _ | _ | _
    · rw [decide_eq_false (by intro z; cases z)]
      refine w_p (pc1 := 68) rfl rfl ?_
      refine w_m0 (pc1 := 71) rfl rfl (h_gC rfl rfl rfl rfl) rfl ?_
      refine w_p (pc1 := 72) rfl rfl ?_
      refine w_m0 (pc1 := 73) (st1 := .int 3 :: _) rfl rfl (n_ile (e := i) rfl rfl rfl (by omega) (hKd)) rfl ?_
      refine w_t (a := 79) (b := 76) rfl rfl rfl ?_
      refine w_p (pc1 := 80) rfl rfl ?_
      refine w_m0 (pc1 := 83) rfl rfl (h_gC rfl rfl rfl rfl) rfl ?_
      refine w_p (pc1 := 84) rfl rfl ?_
      refine w_m0 (pc1 := 85) (st1 := .int 3 :: _) rfl rfl (n_ile (e := i) rfl rfl rfl (by omega) (hKd)) rfl ?_
      refine w_p (pc1 := 86) (st1 := .int 3 :: _) rfl rfl ?_
      refine w_f (a := 123) (b := 89) rfl rfl rfl ?_
      refine w_p (pc1 := 90) rfl rfl ?_
      refine w_p (pc1 := 91) rfl rfl ?_
      refine w_p (pc1 := 92) (st1 := .int 0 :: _) rfl rfl ?_
      refine w_p (pc1 := 93) rfl rfl ?_
      refine w_m0 (pc1 := 96) rfl rfl (h_gC rfl rfl rfl rfl) rfl ?_
      refine w_p (pc1 := 97) rfl rfl ?_
      refine w_m0 (pc1 := 98) (st1 := .int (nI (O.length)) :: _) rfl rfl (n_ile (e := i) rfl rfl rfl (by omega) (u1)) rfl ?_
      refine w_p (pc1 := 100) (st1 := .int 6 :: _) rfl rfl ?_
      refine w_p (pc1 := 102) (st1 := .int 40 :: _) rfl rfl ?_
      refine w_p (pc1 := 103) rfl rfl ?_
      refine w_imul (pc1 := 104) (u := nI (40)) (v := nI (rTb u)) (z := nI (40 * (rTb u))) rfl (nK_mul) rfl ?_
      refine w_p (pc1 := 105) rfl rfl ?_
      refine w_iadd (pc1 := 106) (u := nI (40 * (rTb u))) (v := nI (k)) (z := nI (40 * (rTb u) + k)) rfl (nK_add) rfl ?_
      refine w_imul (pc1 := 107) (u := nI (6)) (v := nI (40 * (rTb u) + k)) (z := nI (6 * (40 * (rTb u) + k))) rfl (nK_mul) rfl ?_
      refine w_p (pc1 := 108) (st1 := .int 0 :: _) rfl rfl ?_
      refine w_p (pc1 := 109) (st1 := .int 1 :: _) rfl rfl ?_
      refine w_ji (pc1 := 112) (vs := [.ref 176, .int (nI (i)), .int 0, .int (nI (O.length)), .int (nI (6 * (40 * (rTb u) + k))), .int 0, .int 1]) (rest := []) (hwk) rfl rfl rfl (fun _ _ => rfl) rfl (by exact cl_v my_251 rfl rfl rfl (Nat.le_of_ble_eq_true rfl) rfl (MH_obj rfl rfl) rfl (by decide) rfl rfl) (by rfl) (Nat.le_of_ble_eq_true rfl) (Nat.le_of_ble_eq_true rfl) rfl (fun v h m hq => ?_) (fun _ _ _ e => e.elim)
      obtain ⟨rfl, ⟨C1, ⟨f1, f2⟩, rfl⟩, rfl⟩ := hq
      rw [hv]
      have hz2 : frZ C C1 := ⟨f2, by rw [f1, hz, hbv]; cases z <;> rfl⟩
      refine w_p (pc1 := 113) (st1 := .long 0 :: _) rfl rfl ?_
      refine w_p (pc1 := 114) rfl rfl ?_
      refine w_t (a := 121) (b := 117) (lb_ne_t (by decide)) rfl rfl ?_
      refine w_p (pc1 := 122) (st1 := .int 0 :: _) rfl rfl ?_
      refine w_r rfl rfl rfl (fun _ _ => rfl) rfl ?_
      exact BM_f hz2 _ _ _ BM_i
    · rw [decide_eq_true rfl]
      refine w_p (pc1 := 68) rfl rfl ?_
      refine w_m0 (pc1 := 71) rfl rfl (h_gC rfl rfl rfl rfl) rfl ?_
      refine w_p (pc1 := 72) rfl rfl ?_
      refine w_m0 (pc1 := 73) (st1 := .int 3 :: _) rfl rfl (n_ile (e := i) rfl rfl rfl (by omega) (hKd)) rfl ?_
      refine w_t (a := 79) (b := 76) rfl rfl rfl ?_
      refine w_p (pc1 := 80) rfl rfl ?_
      refine w_m0 (pc1 := 83) rfl rfl (h_gC rfl rfl rfl rfl) rfl ?_
      refine w_p (pc1 := 84) rfl rfl ?_
      refine w_m0 (pc1 := 85) (st1 := .int 3 :: _) rfl rfl (n_ile (e := i) rfl rfl rfl (by omega) (hKd)) rfl ?_
      refine w_p (pc1 := 86) (st1 := .int 3 :: _) rfl rfl ?_
      refine w_f (a := 123) (b := 89) rfl rfl rfl ?_
      refine w_p (pc1 := 90) rfl rfl ?_
      refine w_p (pc1 := 91) rfl rfl ?_
      refine w_p (pc1 := 92) (st1 := .int 0 :: _) rfl rfl ?_
      refine w_p (pc1 := 93) rfl rfl ?_
      refine w_m0 (pc1 := 96) rfl rfl (h_gC rfl rfl rfl rfl) rfl ?_
      refine w_p (pc1 := 97) rfl rfl ?_
      refine w_m0 (pc1 := 98) (st1 := .int (nI (O.length)) :: _) rfl rfl (n_ile (e := i) rfl rfl rfl (by omega) (u1)) rfl ?_
      refine w_p (pc1 := 100) (st1 := .int 6 :: _) rfl rfl ?_
      refine w_p (pc1 := 102) (st1 := .int 40 :: _) rfl rfl ?_
      refine w_p (pc1 := 103) rfl rfl ?_
      refine w_imul (pc1 := 104) (u := nI (40)) (v := nI (rTb u)) (z := nI (40 * (rTb u))) rfl (nK_mul) rfl ?_
      refine w_p (pc1 := 105) rfl rfl ?_
      refine w_iadd (pc1 := 106) (u := nI (40 * (rTb u))) (v := nI (k)) (z := nI (40 * (rTb u) + k)) rfl (nK_add) rfl ?_
      refine w_imul (pc1 := 107) (u := nI (6)) (v := nI (40 * (rTb u) + k)) (z := nI (6 * (40 * (rTb u) + k))) rfl (nK_mul) rfl ?_
      refine w_p (pc1 := 108) (st1 := .int 0 :: _) rfl rfl ?_
      refine w_p (pc1 := 109) (st1 := .int 1 :: _) rfl rfl ?_
      refine w_ji (pc1 := 112) (vs := [.ref 176, .int (nI (i)), .int 0, .int (nI (O.length)), .int (nI (6 * (40 * (rTb u) + k))), .int 0, .int 1]) (rest := []) (hwk) rfl rfl rfl (fun _ _ => rfl) rfl (by exact cl_v my_251 rfl rfl rfl (Nat.le_of_ble_eq_true rfl) rfl (MH_obj rfl rfl) rfl (by decide) rfl rfl) (by rfl) (Nat.le_of_ble_eq_true rfl) (Nat.le_of_ble_eq_true rfl) rfl (fun v h m hq => ?_) (fun _ _ _ e => e.elim)
      obtain ⟨rfl, ⟨C1, ⟨f1, f2⟩, rfl⟩, rfl⟩ := hq
      rw [hv]
      have hz2 : frZ C C1 := ⟨f2, by rw [f1, hz, hbv]; cases z <;> rfl⟩
      refine w_p (pc1 := 113) (st1 := .long 0 :: _) rfl rfl ?_
      refine w_p (pc1 := 114) rfl rfl ?_
      refine w_f (a := 121) (b := 117) (lb_ne_f (by rfl)) rfl rfl ?_
      refine w_p (pc1 := 118) (st1 := .int 1 :: _) rfl rfl ?_
      refine w_p (pc1 := 122) rfl rfl ?_
      refine w_r rfl rfl rfl (fun _ _ => rfl) rfl ?_
      exact BM_f hz2 _ _ _ BM_i
    · rw [decide_eq_false (by intro z; cases z)]
      refine w_p (pc1 := 68) rfl rfl ?_
      refine w_m0 (pc1 := 71) rfl rfl (h_gC rfl rfl rfl rfl) rfl ?_
      refine w_p (pc1 := 72) rfl rfl ?_
      refine w_m0 (pc1 := 73) (st1 := .int 3 :: _) rfl rfl (n_ile (e := i) rfl rfl rfl (by omega) (hKd)) rfl ?_
      refine w_t (a := 79) (b := 76) rfl rfl rfl ?_
      refine w_p (pc1 := 80) rfl rfl ?_
      refine w_m0 (pc1 := 83) rfl rfl (h_gC rfl rfl rfl rfl) rfl ?_
      refine w_p (pc1 := 84) rfl rfl ?_
      refine w_m0 (pc1 := 85) (st1 := .int 3 :: _) rfl rfl (n_ile (e := i) rfl rfl rfl (by omega) (hKd)) rfl ?_
      refine w_p (pc1 := 86) (st1 := .int 3 :: _) rfl rfl ?_
      refine w_f (a := 123) (b := 89) rfl rfl rfl ?_
      refine w_p (pc1 := 90) rfl rfl ?_
      refine w_p (pc1 := 91) rfl rfl ?_
      refine w_p (pc1 := 92) (st1 := .int 0 :: _) rfl rfl ?_
      refine w_p (pc1 := 93) rfl rfl ?_
      refine w_m0 (pc1 := 96) rfl rfl (h_gC rfl rfl rfl rfl) rfl ?_
      refine w_p (pc1 := 97) rfl rfl ?_
      refine w_m0 (pc1 := 98) (st1 := .int (nI (O.length)) :: _) rfl rfl (n_ile (e := i) rfl rfl rfl (by omega) (u1)) rfl ?_
      refine w_p (pc1 := 100) (st1 := .int 6 :: _) rfl rfl ?_
      refine w_p (pc1 := 102) (st1 := .int 40 :: _) rfl rfl ?_
      refine w_p (pc1 := 103) rfl rfl ?_
      refine w_imul (pc1 := 104) (u := nI (40)) (v := nI (rTb u)) (z := nI (40 * (rTb u))) rfl (nK_mul) rfl ?_
      refine w_p (pc1 := 105) rfl rfl ?_
      refine w_iadd (pc1 := 106) (u := nI (40 * (rTb u))) (v := nI (k)) (z := nI (40 * (rTb u) + k)) rfl (nK_add) rfl ?_
      refine w_imul (pc1 := 107) (u := nI (6)) (v := nI (40 * (rTb u) + k)) (z := nI (6 * (40 * (rTb u) + k))) rfl (nK_mul) rfl ?_
      refine w_p (pc1 := 108) (st1 := .int 0 :: _) rfl rfl ?_
      refine w_p (pc1 := 109) (st1 := .int 1 :: _) rfl rfl ?_
      refine w_ji (pc1 := 112) (vs := [.ref 176, .int (nI (i)), .int 0, .int (nI (O.length)), .int (nI (6 * (40 * (rTb u) + k))), .int 0, .int 1]) (rest := []) (hwk) rfl rfl rfl (fun _ _ => rfl) rfl (by exact cl_v my_251 rfl rfl rfl (Nat.le_of_ble_eq_true rfl) rfl (MH_obj rfl rfl) rfl (by decide) rfl rfl) (by rfl) (Nat.le_of_ble_eq_true rfl) (Nat.le_of_ble_eq_true rfl) rfl (fun v h m hq => ?_) (fun _ _ _ e => e.elim)
      obtain ⟨rfl, ⟨C1, ⟨f1, f2⟩, rfl⟩, rfl⟩ := hq
      rw [hv]
      have hz2 : frZ C C1 := ⟨f2, by rw [f1, hz, hbv]; cases z <;> rfl⟩
      refine w_p (pc1 := 113) (st1 := .long 0 :: _) rfl rfl ?_
      refine w_p (pc1 := 114) rfl rfl ?_
      refine w_t (a := 121) (b := 117) (lb_ne_t (by decide)) rfl rfl ?_
      refine w_p (pc1 := 122) (st1 := .int 0 :: _) rfl rfl ?_
      refine w_r rfl rfl rfl (fun _ _ => rfl) rfl ?_
      exact BM_f hz2 _ _ _ BM_i
  · rw [hK] at hKd
    obtain ⟨⟨b, hb1, hb2, hb3⟩, hll⟩ := hR.2.1 hK
    have hm := m_276 (L := L) (xs := xs) (t := t) (d := d + 2) (sl := 0) W U hi hR hb1 hb2 hb3 hll hr
    have e0 : brk u rs k r = (!nul (rCs u) r.2 && !((rs b).1.any (fun q => alk (rCs u) (rOs u) r.2 q.2))) := by unfold brk; rw [hK, hb1]; rfl
    rw [e0]
    cases hx : nul (rCs u) r.2 with
    | true =>
      refine w_p (pc1 := 68) rfl rfl ?_
      refine w_m0 (pc1 := 71) rfl rfl (h_gC rfl rfl rfl rfl) rfl ?_
      refine w_p (pc1 := 72) rfl rfl ?_
      refine w_m0 (pc1 := 73) (st1 := .int 4 :: _) rfl rfl (n_ile (e := i) rfl rfl rfl (by omega) (hKd)) rfl ?_
      refine w_t (a := 79) (b := 76) rfl rfl rfl ?_
      refine w_p (pc1 := 80) rfl rfl ?_
      refine w_m0 (pc1 := 83) rfl rfl (h_gC rfl rfl rfl rfl) rfl ?_
      refine w_p (pc1 := 84) rfl rfl ?_
      refine w_m0 (pc1 := 85) (st1 := .int 4 :: _) rfl rfl (n_ile (e := i) rfl rfl rfl (by omega) (hKd)) rfl ?_
      refine w_p (pc1 := 86) (st1 := .int 3 :: _) rfl rfl ?_
      refine w_t (a := 123) (b := 89) rfl rfl rfl ?_
      refine w_p (pc1 := 125) rfl rfl ?_
      refine w_f (a := 144) (b := 128) rfl rfl rfl ?_
      refine w_p (pc1 := 129) rfl rfl ?_
      refine w_m0 (pc1 := 132) rfl rfl (h_gC rfl rfl rfl rfl) rfl ?_
      refine w_p (pc1 := 133) rfl rfl ?_
      refine w_m0 (pc1 := 134) (st1 := .int 4 :: _) rfl rfl (n_ile (e := i) rfl rfl rfl (by omega) (hKd)) rfl ?_
      refine w_p (pc1 := 135) (st1 := .int 1 :: _) rfl rfl ?_
      refine w_t (a := 142) (b := 138) rfl rfl rfl ?_
      refine w_p (pc1 := 143) (st1 := .int 0 :: _) rfl rfl ?_
      refine w_r rfl rfl rfl (fun _ _ => rfl) rfl ?_
      exact BM_i
    | false =>
      cases hy : (rs b).1.any (fun q => alk (rCs u) (rOs u) r.2 q.2) with
      | true =>
        rw [hy] at hm
        refine w_p (pc1 := 68) rfl rfl ?_
        refine w_m0 (pc1 := 71) rfl rfl (h_gC rfl rfl rfl rfl) rfl ?_
        refine w_p (pc1 := 72) rfl rfl ?_
        refine w_m0 (pc1 := 73) (st1 := .int 4 :: _) rfl rfl (n_ile (e := i) rfl rfl rfl (by omega) (hKd)) rfl ?_
        refine w_t (a := 79) (b := 76) rfl rfl rfl ?_
        refine w_p (pc1 := 80) rfl rfl ?_
        refine w_m0 (pc1 := 83) rfl rfl (h_gC rfl rfl rfl rfl) rfl ?_
        refine w_p (pc1 := 84) rfl rfl ?_
        refine w_m0 (pc1 := 85) (st1 := .int 4 :: _) rfl rfl (n_ile (e := i) rfl rfl rfl (by omega) (hKd)) rfl ?_
        refine w_p (pc1 := 86) (st1 := .int 3 :: _) rfl rfl ?_
        refine w_t (a := 123) (b := 89) rfl rfl rfl ?_
        refine w_p (pc1 := 125) rfl rfl ?_
        refine w_t (a := 144) (b := 128) rfl rfl rfl ?_
        refine w_p (pc1 := 145) rfl rfl ?_
        refine w_m0 (pc1 := 148) rfl rfl (h_gC rfl rfl rfl rfl) rfl ?_
        refine w_p (pc1 := 149) rfl rfl ?_
        refine w_m0 (pc1 := 150) (st1 := .int 4 :: _) rfl rfl (n_ile (e := i) rfl rfl rfl (by omega) (hKd)) rfl ?_
        refine w_p (pc1 := 151) (st1 := .int 4 :: _) rfl rfl ?_
        refine w_f (a := 170) (b := 154) rfl rfl rfl ?_
        refine w_p (pc1 := 155) rfl rfl ?_
        refine w_p (pc1 := 156) rfl rfl ?_
        refine w_p (pc1 := 157) rfl rfl ?_
        refine w_p (pc1 := 158) rfl rfl ?_
        refine w_je (pc1 := 161) (vs := [.ref 176, .int (nI (i)), .int (nI (rTb u)), .int (nI (k))]) (rest := []) (st1 := [.int 1]) (hm) rfl rfl rfl (fun _ _ => rfl) rfl (by exact cl_v my_276 rfl rfl rfl (Nat.le_of_ble_eq_true rfl) rfl (MH_obj rfl rfl) rfl (by decide) rfl rfl) (by rfl) (Nat.le_of_ble_eq_true rfl) (Nat.le_of_ble_eq_true rfl) rfl (by rfl) ?_
        refine w_t (a := 168) (b := 164) rfl rfl rfl ?_
        refine w_p (pc1 := 169) (st1 := .int 0 :: _) rfl rfl ?_
        refine w_r rfl rfl rfl (fun _ _ => rfl) rfl ?_
        exact BM_i
      | false =>
        rw [hy] at hm
        refine w_p (pc1 := 68) rfl rfl ?_
        refine w_m0 (pc1 := 71) rfl rfl (h_gC rfl rfl rfl rfl) rfl ?_
        refine w_p (pc1 := 72) rfl rfl ?_
        refine w_m0 (pc1 := 73) (st1 := .int 4 :: _) rfl rfl (n_ile (e := i) rfl rfl rfl (by omega) (hKd)) rfl ?_
        refine w_t (a := 79) (b := 76) rfl rfl rfl ?_
        refine w_p (pc1 := 80) rfl rfl ?_
        refine w_m0 (pc1 := 83) rfl rfl (h_gC rfl rfl rfl rfl) rfl ?_
        refine w_p (pc1 := 84) rfl rfl ?_
        refine w_m0 (pc1 := 85) (st1 := .int 4 :: _) rfl rfl (n_ile (e := i) rfl rfl rfl (by omega) (hKd)) rfl ?_
        refine w_p (pc1 := 86) (st1 := .int 3 :: _) rfl rfl ?_
        refine w_t (a := 123) (b := 89) rfl rfl rfl ?_
        refine w_p (pc1 := 125) rfl rfl ?_
        refine w_t (a := 144) (b := 128) rfl rfl rfl ?_
        refine w_p (pc1 := 145) rfl rfl ?_
        refine w_m0 (pc1 := 148) rfl rfl (h_gC rfl rfl rfl rfl) rfl ?_
        refine w_p (pc1 := 149) rfl rfl ?_
        refine w_m0 (pc1 := 150) (st1 := .int 4 :: _) rfl rfl (n_ile (e := i) rfl rfl rfl (by omega) (hKd)) rfl ?_
        refine w_p (pc1 := 151) (st1 := .int 4 :: _) rfl rfl ?_
        refine w_f (a := 170) (b := 154) rfl rfl rfl ?_
        refine w_p (pc1 := 155) rfl rfl ?_
        refine w_p (pc1 := 156) rfl rfl ?_
        refine w_p (pc1 := 157) rfl rfl ?_
        refine w_p (pc1 := 158) rfl rfl ?_
        refine w_je (pc1 := 161) (vs := [.ref 176, .int (nI (i)), .int (nI (rTb u)), .int (nI (k))]) (rest := []) (st1 := [.int 0]) (hm) rfl rfl rfl (fun _ _ => rfl) rfl (by exact cl_v my_276 rfl rfl rfl (Nat.le_of_ble_eq_true rfl) rfl (MH_obj rfl rfl) rfl (by decide) rfl rfl) (by rfl) (Nat.le_of_ble_eq_true rfl) (Nat.le_of_ble_eq_true rfl) rfl (by rfl) ?_
        refine w_f (a := 168) (b := 164) rfl rfl rfl ?_
        refine w_p (pc1 := 165) (st1 := .int 1 :: _) rfl rfl ?_
        refine w_p (pc1 := 169) rfl rfl ?_
        refine w_r rfl rfl rfl (fun _ _ => rfl) rfl ?_
        exact BM_i
set_option maxRecDepth 100000 in
theorem lp_274 (hi : i < 24) (hR : okR wd u) {z : Bool} : ∀ (suf pre : List ro_T) (C : co_T), RWM C wd rs → RUM C i u → C.1 76 74 = ck z → pre ++ suf = (rs (rTb u)).1 → Wd L xs (d + 5) y_274 (2, [(2, .int (nI (pre.length))), (0, .ref 176), (1, .int (nI (i)))], [], MH C t, sl) (BM C t sl (fbl (brk u rs) pre.length suf)) nX
  | [], pre, C, W, U, hz, hp => by
    rw [List.append_nil] at hp
    have hl := congrArg List.length hp
    have hb := hR.1.2.1
    have h6 := hR.1.2.2.1
    have h40 := (W _ hb).2.2.1
    have w6 := (W _ hb).1
    refine w_p (pc1 := 3) rfl rfl ?_
    refine w_p (pc1 := 4) rfl rfl ?_
    refine w_m0 (pc1 := 7) rfl rfl (h_gC rfl rfl rfl rfl) rfl ?_
    refine w_p (pc1 := 8) rfl rfl ?_
    refine w_m0 (pc1 := 11) rfl rfl (h_gC rfl rfl rfl rfl) rfl ?_
    refine w_p (pc1 := 12) rfl rfl ?_
    refine w_m0 (pc1 := 13) (st1 := .int (nI (rTb u)) :: _) rfl rfl (n_ile (e := i) rfl rfl rfl (by omega) (U.1.2.1)) rfl ?_
    refine w_m0 (pc1 := 14) (st1 := .int (nI ((rs (rTb u)).1.length)) :: _) rfl rfl (n_ile (e := rTb u) rfl rfl rfl (by omega) ((W _ hb).2.1)) rfl ?_
    refine w_t (a := 49) (b := 17) (bN_ge_t (a := pre.length) (b := (rs (rTb u)).1.length) (by omega) (by omega) (by omega)) rfl rfl ?_
    refine w_p (pc1 := 50) (st1 := .int (-1) :: _) rfl rfl ?_
    refine w_r rfl rfl rfl (fun _ _ => rfl) cr_int ?_
    exact BM_i
  | r :: suf, pre, C, W, U, hz, hp => by
    obtain ⟨h1, h2, h3⟩ := get_ap hp
    have hb := hR.1.2.1
    have h6 := hR.1.2.2.1
    have h40 := (W _ hb).2.2.1
    have w6 := (W _ hb).1
    have hid := ((W _ hb).2.2.2 _ _ h1).1
    have hm := m_275 (L := L) (xs := xs) (t := t) (d := d) (sl := 0) W U hi hR h1 hz
    rw [fbl]
    cases hx : brk u rs pre.length r with
    | true =>
      rw [hx] at hm
      refine w_p (pc1 := 3) rfl rfl ?_
      refine w_p (pc1 := 4) rfl rfl ?_
      refine w_m0 (pc1 := 7) rfl rfl (h_gC rfl rfl rfl rfl) rfl ?_
      refine w_p (pc1 := 8) rfl rfl ?_
      refine w_m0 (pc1 := 11) rfl rfl (h_gC rfl rfl rfl rfl) rfl ?_
      refine w_p (pc1 := 12) rfl rfl ?_
      refine w_m0 (pc1 := 13) (st1 := .int (nI (rTb u)) :: _) rfl rfl (n_ile (e := i) rfl rfl rfl (by omega) (U.1.2.1)) rfl ?_
      refine w_m0 (pc1 := 14) (st1 := .int (nI ((rs (rTb u)).1.length)) :: _) rfl rfl (n_ile (e := rTb u) rfl rfl rfl (by omega) ((W _ hb).2.1)) rfl ?_
      refine w_f (a := 49) (b := 17) (bN_ge_f (a := pre.length) (b := (rs (rTb u)).1.length) (by omega) (by omega) (by omega)) rfl rfl ?_
      refine w_p (pc1 := 18) rfl rfl ?_
      refine w_p (pc1 := 19) rfl rfl ?_
      refine w_p (pc1 := 20) rfl rfl ?_
      refine w_ji (pc1 := 23) (vs := [.ref 176, .int (nI (i)), .int (nI (pre.length))]) (rest := []) (hm) rfl rfl rfl (fun _ _ => rfl) rfl (by exact cl_v my_275 rfl rfl rfl (Nat.le_of_ble_eq_true rfl) rfl (MH_obj rfl rfl) rfl (by decide) rfl rfl) (by rfl) (Nat.le_of_ble_eq_true rfl) (Nat.le_of_ble_eq_true rfl) rfl (fun v h m hq => ?_) (fun _ _ _ e => e.elim)
      obtain ⟨rfl, ⟨C1, hf, rfl⟩, rfl⟩ := hq
      have hid2 : C.1 115 (40 * rTb u + pre.length) = r.1 := by rw [show 40 * rTb u + pre.length = rTb u * 40 + pre.length by omega]; exact hid
      refine w_f (a := 43) (b := 26) rfl rfl rfl ?_
      refine w_p (pc1 := 27) rfl rfl ?_
      refine w_m0 (pc1 := 30) rfl rfl (h_gC rfl rfl rfl rfl) rfl ?_
      refine w_p (pc1 := 32) (st1 := .int 40 :: _) rfl rfl ?_
      refine w_p (pc1 := 33) rfl rfl ?_
      refine w_m0 (pc1 := 36) rfl rfl (h_gC rfl rfl rfl rfl) rfl ?_
      refine w_p (pc1 := 37) rfl rfl ?_
      refine w_m0 (pc1 := 38) (st1 := .int (nI (rTb u)) :: _) rfl rfl (n_ile (e := i) rfl rfl rfl (by omega) ((RUM_f hf.1 U).1.2.1)) rfl ?_
      refine w_imul (pc1 := 39) (u := nI (40)) (v := nI (rTb u)) (z := nI (40 * (rTb u))) rfl (nK_mul) rfl ?_
      refine w_p (pc1 := 40) rfl rfl ?_
      refine w_iadd (pc1 := 41) (u := nI (40 * (rTb u))) (v := nI (pre.length)) (z := nI (40 * (rTb u) + (pre.length))) rfl (nK_add) rfl ?_
      refine w_m0 (pc1 := 42) (st1 := .int (r.1) :: _) rfl rfl (n_ile (e := 40 * (rTb u) + (pre.length)) rfl rfl rfl (by omega) ((hf.1.1 115 _ (by omega)).trans hid2)) rfl ?_
      refine w_r rfl rfl rfl (fun _ _ => rfl) cr_int ?_
      exact BM_f hf _ _ _ BM_i
    | false =>
      rw [hx] at hm
      refine w_p (pc1 := 3) rfl rfl ?_
      refine w_p (pc1 := 4) rfl rfl ?_
      refine w_m0 (pc1 := 7) rfl rfl (h_gC rfl rfl rfl rfl) rfl ?_
      refine w_p (pc1 := 8) rfl rfl ?_
      refine w_m0 (pc1 := 11) rfl rfl (h_gC rfl rfl rfl rfl) rfl ?_
      refine w_p (pc1 := 12) rfl rfl ?_
      refine w_m0 (pc1 := 13) (st1 := .int (nI (rTb u)) :: _) rfl rfl (n_ile (e := i) rfl rfl rfl (by omega) (U.1.2.1)) rfl ?_
      refine w_m0 (pc1 := 14) (st1 := .int (nI ((rs (rTb u)).1.length)) :: _) rfl rfl (n_ile (e := rTb u) rfl rfl rfl (by omega) ((W _ hb).2.1)) rfl ?_
      refine w_f (a := 49) (b := 17) (bN_ge_f (a := pre.length) (b := (rs (rTb u)).1.length) (by omega) (by omega) (by omega)) rfl rfl ?_
      refine w_p (pc1 := 18) rfl rfl ?_
      refine w_p (pc1 := 19) rfl rfl ?_
      refine w_p (pc1 := 20) rfl rfl ?_
      refine w_ji (pc1 := 23) (vs := [.ref 176, .int (nI (i)), .int (nI (pre.length))]) (rest := []) (hm) rfl rfl rfl (fun _ _ => rfl) rfl (by exact cl_v my_275 rfl rfl rfl (Nat.le_of_ble_eq_true rfl) rfl (MH_obj rfl rfl) rfl (by decide) rfl rfl) (by rfl) (Nat.le_of_ble_eq_true rfl) (Nat.le_of_ble_eq_true rfl) rfl (fun v h m hq => ?_) (fun _ _ _ e => e.elim)
      obtain ⟨rfl, ⟨C1, hf, rfl⟩, rfl⟩ := hq
      refine w_t (a := 43) (b := 26) rfl rfl rfl ?_
      refine w_iinc (pc1 := 46) (u := nI (pre.length)) (z := nI (pre.length + 1)) (al1 := [(2, .int (nI (pre.length + 1))), (0, .ref 176), (1, .int (nI (i)))]) rfl rfl rfl nK_1 rfl rfl ?_
      refine w_p (pc1 := 2) rfl rfl ?_
      have := lp_274 hi hR suf (pre ++ [r]) C1 (RWM_f hf.1 W) (RUM_f hf.1 U) (hf.2.trans hz) h3
      rw [len_s] at this
      exact Wd_q this (BM_f hf) (fun _ _ _ e => e)
set_option maxRecDepth 100000 in
theorem m_274 (W : RWM C wd rs) (U : RUM C i u) (hi : i < 24) (hR : okR wd u) {z : Bool} (hz : C.1 76 74 = ck z) : Wd L xs (d + 5) y_274 (0, [(0, .ref 176), (1, .int (nI (i)))], [], MH C t, sl) (BM C t sl (fbk u rs)) nX := by
  refine w_p (pc1 := 1) (st1 := .int 0 :: _) rfl rfl ?_
  refine w_p (pc1 := 2) (al1 := [(2, .int 0), (0, .ref 176), (1, .int (nI (i)))]) rfl rfl ?_
  exact lp_274 hi hR (rs (rTb u)).1 [] C W U hz rfl
end MRU
