
/-! ONE SIDE: formulas are built -/
set_option maxRecDepth 100000 in
theorem tl_mk (t : ab_H) (c : ab_C) : ∃ t1, t ++ [c] = t1 ∧ t1[t.length]? = some c ∧ tlE t t1 ∧ t1.length = t.length + 1 := ⟨_, rfl, tl_new, tlE_a, by rw [List.length_append, List.length_singleton]⟩
set_option maxRecDepth 100000 in
theorem tl_st {t : ab_H} {k : Nat} {c0 : ab_C} (h : t[k]? = some c0) (c : ab_C) : ∃ t1, t.set k c = t1 ∧ t1[k]? = some c ∧ (∀ j x, j ≠ k → t[j]? = some x → t1[j]? = some x) ∧ t1.length = t.length := ⟨_, rfl, tl_self h, fun j x hj h => tl_set h (fun e => hj e.symm), List.length_set⟩
set_option maxRecDepth 100000 in
theorem tl_sn {t : ab_H} {c c' : ab_C} : (t ++ [c]).set t.length c' = t ++ [c'] := by
  rw [List.set_append_right _ _ (Nat.le_refl _), Nat.sub_self]
  rfl
set_option maxRecDepth 100000 in
theorem nar_ck {b : Bool} : narrow .boolean (.int (ck b)) = .int (ck b) ∧ fits .boolean (.int (ck b)) = true := by cases b <;> exact ⟨rfl, rfl⟩
set_option maxRecDepth 100000 in
theorem cl_i {o idx m n : Nat} {e : ml_T} {yc : mc_T} {st as rest : List Value} {ob : Nat} {h : ab_H} (hy : mc[m]? = some yc) (hq : mlI.find? (fun q => q.1 == o && q.2.1 == idx) = some e) (hm : e.2.2.1 = m) (hn : na_l[m]? = some n) (hl : n ≤ st.length) (hd : st.drop n = Value.ref ob :: rest) (hN : mN.contains m = true) (h3 : yc.1.1.name = "<init>" ∧ yc.1.2.2.2.1 = none ∧ yc.1.2.2.2.2 = []) (ha : (st.take n).reverse = as) : cl o h (.invokespecial idx) 3 st = some (yc, Value.ref ob :: as, rest) := by
  unfold cl
  simp only
  rw [hq]
  have : cl_ar e.2.2.1 st = some (yc, as, Value.ref ob :: rest) := by
    unfold cl_ar
    rw [hm, hy, hn]
    simp only
    rw [if_pos hl, ha, hd]
  simp only
  rw [this]
  simp only
  rw [if_pos ⟨by rw [hm]; exact hN, h3⟩]
section NA2
variable {o idx fr lo : Nat} {q : List Value} {h : ab_H} {u : Nat}
set_option maxRecDepth 100000 in
theorem n_miA (hu : u ≤ 600) (hl : mi_l.contains (o, idx) = true) (ha : ac_l.contains (o, idx) = false) (hs : sumc q ≤ 50) (h1 : 1 ≤ fr) (h2 : 64 ≤ lo) : cn o fr lo (.invokestatic idx) 3 h (.int (nI u) :: .int 600 :: q) = some (.int (nI u) :: q, h, 0) := by
  rw [n_mi hl ha hs h1 h2]
  by_cases e : nI u < 600
  · rw [if_pos e]
  · rw [if_neg e]
    rw [Int32.lt_iff_toInt_lt, nK_int (by omega)] at e
    have e : ¬ ((u : Int) < 600) := e
    obtain rfl : u = 600 := by omega
    rfl
set_option maxRecDepth 100000 in
theorem n_miB (hu : u ≤ 600) (hl : mi_l.contains (o, idx) = true) (ha : ac_l.contains (o, idx) = false) (hs : sumc q ≤ 50) (h1 : 1 ≤ fr) (h2 : 64 ≤ lo) : cn o fr lo (.invokestatic idx) 3 h (.int 600 :: .int (nI u) :: q) = some (.int (nI u) :: q, h, 0) := by
  rw [n_mi hl ha hs h1 h2]
  have : ¬ ((600 : Int32) < nI u) := by
    rw [Int32.lt_iff_toInt_lt, nK_int (by omega)]
    show ¬ ((600 : Int) < u)
    omega
  rw [if_neg this]
set_option maxRecDepth 100000 in
theorem n_ma0 (hu : u < 2147483648) (hn : mi_l.contains (o, idx) = false) (hl : ma_l.contains (o, idx) = true) (hac : ac_l.contains (o, idx) = false) (hs : sumc q ≤ 50) (h1 : 1 ≤ fr) (h2 : 64 ≤ lo) : cn o fr lo (.invokestatic idx) 3 h (.int (nI u) :: .int 0 :: q) = some (.int (nI u) :: q, h, 0) := by
  have := n_maN (o := o) (idx := idx) (fr := fr) (lo := lo) (a := 0) (b := u) (q := q) (h := h) (by decide) hu hn hl hac hs h1 h2
  rw [show max 0 u = u from Nat.max_eq_right (Nat.zero_le _)] at this
  exact this
end NA2
section BLT
variable {L : Nat} {xs : Nat → Int32} {C : co_T} {t : ab_H} {d sl u k k1 k2 : Nat} {f : Nat → Int32} {b : Bool} {O : List op_T}
set_option maxRecDepth 100000 in
theorem m_71_22 (hu : u < 600) : Wd L xs (d + 1) y_71 (0, [(0, .ref 122), (1, .int (nI u))], [], MH C t, sl) (fun v h m => some (.ref (241 + t.length)) = v ∧ MH C (t ++ [.inl (0, u, .inl (va_cpy (C.1 22) (fun _ => 0) 0 0 u))]) = h ∧ sl + u = m) nX := by
  refine w_p (pc1 := 1) rfl rfl ?_
  refine w_p (pc1 := 2) rfl rfl ?_
  refine w_m0 (pc1 := 3) (st1 := .int 600 :: _) rfl rfl (h_lnI rfl rfl (by decide)) rfl ?_
  refine w_t (a := 14) (b := 6) (bN_ne_t (a := u) (b := 600) (by omega) (by omega) (by omega)) rfl rfl ?_
  refine w_p (pc1 := 15) rfl rfl ?_
  refine w_m (pc1 := 17) rfl rfl (x_naI (n := u) (by omega)) rfl ?_
  refine w_p (pc1 := 18) (al1 := [(2, .ref (241 + t.length)), (0, .ref 122), (1, .int (nI (u)))]) rfl rfl ?_
  refine w_p (pc1 := 19) rfl rfl ?_
  refine w_p (pc1 := 20) (st1 := .int 0 :: _) rfl rfl ?_
  refine w_p (pc1 := 21) rfl rfl ?_
  refine w_p (pc1 := 22) (st1 := .int 0 :: _) rfl rfl ?_
  refine w_p (pc1 := 23) rfl rfl ?_
  refine w_m0 (pc1 := 24) (st1 := .int 600 :: _) rfl rfl (h_lnI rfl rfl (by decide)) rfl ?_
  refine w_p (pc1 := 25) rfl rfl ?_
  refine w_c (pc1 := 28) (st1 := .int (nI (u)) :: _) rfl rfl rfl (fun fr lo h1 h2 => n_miA (by omega) rfl rfl (Nat.le_of_ble_eq_true rfl) h1 h2) rfl ?_
  refine w_c (pc1 := 31) rfl rfl rfl (fun fr lo h1 h2 => n_acId (k0 := 22) (k1 := t.length) (sp := 0) (dp := 0) (n := u) rfl tl_new rfl (Nat.le_of_ble_eq_true rfl) (by omega) (by omega) (by decide) (by omega) h1 h2) rfl ?_
  rw [tl_sn]
  refine w_p (pc1 := 32) rfl rfl ?_
  refine w_r rfl rfl rfl (fun _ _ => rfl) rfl ?_
  refine ⟨rfl, ?_, rfl⟩
  with_reducible rfl
set_option maxRecDepth 100000 in
theorem m_71_23 (hu : u < 600) : Wd L xs (d + 1) y_71 (0, [(0, .ref 123), (1, .int (nI u))], [], MH C t, sl) (fun v h m => some (.ref (241 + t.length)) = v ∧ MH C (t ++ [.inl (0, u, .inl (va_cpy (C.1 23) (fun _ => 0) 0 0 u))]) = h ∧ sl + u = m) nX := by
  refine w_p (pc1 := 1) rfl rfl ?_
  refine w_p (pc1 := 2) rfl rfl ?_
  refine w_m0 (pc1 := 3) (st1 := .int 600 :: _) rfl rfl (h_lnI rfl rfl (by decide)) rfl ?_
  refine w_t (a := 14) (b := 6) (bN_ne_t (a := u) (b := 600) (by omega) (by omega) (by omega)) rfl rfl ?_
  refine w_p (pc1 := 15) rfl rfl ?_
  refine w_m (pc1 := 17) rfl rfl (x_naI (n := u) (by omega)) rfl ?_
  refine w_p (pc1 := 18) (al1 := [(2, .ref (241 + t.length)), (0, .ref 123), (1, .int (nI (u)))]) rfl rfl ?_
  refine w_p (pc1 := 19) rfl rfl ?_
  refine w_p (pc1 := 20) (st1 := .int 0 :: _) rfl rfl ?_
  refine w_p (pc1 := 21) rfl rfl ?_
  refine w_p (pc1 := 22) (st1 := .int 0 :: _) rfl rfl ?_
  refine w_p (pc1 := 23) rfl rfl ?_
  refine w_m0 (pc1 := 24) (st1 := .int 600 :: _) rfl rfl (h_lnI rfl rfl (by decide)) rfl ?_
  refine w_p (pc1 := 25) rfl rfl ?_
  refine w_c (pc1 := 28) (st1 := .int (nI (u)) :: _) rfl rfl rfl (fun fr lo h1 h2 => n_miA (by omega) rfl rfl (Nat.le_of_ble_eq_true rfl) h1 h2) rfl ?_
  refine w_c (pc1 := 31) rfl rfl rfl (fun fr lo h1 h2 => n_acId (k0 := 23) (k1 := t.length) (sp := 0) (dp := 0) (n := u) rfl tl_new rfl (Nat.le_of_ble_eq_true rfl) (by omega) (by omega) (by decide) (by omega) h1 h2) rfl ?_
  rw [tl_sn]
  refine w_p (pc1 := 32) rfl rfl ?_
  refine w_r rfl rfl rfl (fun _ _ => rfl) rfl ?_
  refine ⟨rfl, ?_, rfl⟩
  with_reducible rfl
set_option maxRecDepth 100000 in
theorem m_72 (hk1 : k1 ≠ k) (hu : u < 600) (h0 : t[k]? = some (.inr (8, [.null, .null, .int 0, .null]))) (h1 : t[k1]? = some (.inl (0, u, .inl f))) : Wd L xs (d + 1) y_72 (0, [(0, .ref (241 + k)), (1, .ref (241 + k1)), (2, .ref (241 + k2)), (3, .int (ck b))], [], MH C t, sl) (fun v h m => none = v ∧ (∃ t', (t'[k]? = some (.inr (8, [.ref (241 + k1), .ref (241 + k2), .int (ck b), .ref (241 + t.length)])) ∧ t'[t.length]? = some (.inl (1, u, .inr (.inl (fun _ => 0)))) ∧ t'.length = t.length + 1 ∧ ∀ j x, j ≠ k → t[j]? = some x → t'[j]? = some x) ∧ MH C t' = h) ∧ sl + u = m) nX := by
  have hkl : k < t.length := get_lt h0
  refine w_p (pc1 := 1) rfl rfl ?_
  refine w_c (pc1 := 4) rfl rfl rfl (fun fr lo h1 h2 => n_oi rfl (by decide) h1 h2) rfl ?_
  refine w_p (pc1 := 5) rfl rfl ?_
  refine w_p (pc1 := 6) rfl rfl ?_
  refine w_m0 (pc1 := 9) rfl rfl (x_pf (k := k) (fs' := [.ref (241 + k1), .null, .int 0, .null]) rfl h0 rfl rfl ⟨rfl, rfl⟩ (Or.inr ⟨rfl, rfl, rfl⟩) (Nat.le_of_ble_eq_true rfl) rfl) rfl ?_
  obtain ⟨t1, e1, g1, p1, l1⟩ := tl_st h0 (.inr (8, [.ref (241 + k1), .null, .int 0, .null]))
  rw [e1]
  refine w_p (pc1 := 10) rfl rfl ?_
  refine w_p (pc1 := 11) rfl rfl ?_
  refine w_m0 (pc1 := 14) rfl rfl (x_pf (k := k) (fs' := [.ref (241 + k1), .ref (241 + k2), .int 0, .null]) rfl g1 rfl rfl ⟨rfl, rfl⟩ (Or.inr ⟨rfl, rfl, rfl⟩) (Nat.le_of_ble_eq_true rfl) rfl) rfl ?_
  obtain ⟨t2, e2, g2, p2, l2⟩ := tl_st g1 (.inr (8, [.ref (241 + k1), .ref (241 + k2), .int 0, .null]))
  rw [e2]
  refine w_p (pc1 := 15) rfl rfl ?_
  refine w_p (pc1 := 16) rfl rfl ?_
  refine w_m0 (pc1 := 19) rfl rfl (x_pf (k := k) (fs' := [.ref (241 + k1), .ref (241 + k2), .int (ck b), .null]) rfl g2 rfl rfl (nar_ck) (Or.inr ⟨rfl, rfl, rfl⟩) (Nat.le_of_ble_eq_true rfl) rfl) rfl ?_
  obtain ⟨t3, e3, g3, p3, l3⟩ := tl_st g2 (.inr (8, [.ref (241 + k1), .ref (241 + k2), .int (ck b), .null]))
  rw [e3]
  refine w_p (pc1 := 20) rfl rfl ?_
  refine w_p (pc1 := 21) rfl rfl ?_
  refine w_m0 (pc1 := 22) (st1 := .int (nI (u)) :: _) rfl rfl (x_ln (k := k1) (p3 _ _ hk1 (p2 _ _ hk1 (p1 _ _ hk1 h1))) (by decide)) rfl ?_
  refine w_m (pc1 := 24) rfl rfl (x_naJ (n := u) (by omega)) rfl ?_
  obtain ⟨t4, e4, n4, q4, l4⟩ := tl_mk t3 (.inl (1, u, .inr (.inl (fun _ => 0))))
  rw [e4]
  have g4 := q4 _ _ g3
  refine w_m0 (pc1 := 27) rfl rfl (x_pf (k := k) (fs' := [.ref (241 + k1), .ref (241 + k2), .int (ck b), .ref (241 + t3.length)]) rfl g4 rfl rfl ⟨rfl, rfl⟩ (Or.inr ⟨rfl, rfl, rfl⟩) (Nat.le_of_ble_eq_true rfl) rfl) rfl ?_
  obtain ⟨t5, e5, g5, p5, l5⟩ := tl_st g4 (.inr (8, [.ref (241 + k1), .ref (241 + k2), .int (ck b), .ref (241 + t3.length)]))
  rw [e5]
  refine w_r rfl rfl rfl (fun _ _ => rfl) rfl ?_
  have l0 : t3.length = t.length := by omega
  rw [l0] at g5 n4
  refine ⟨rfl, ⟨t5, ⟨g5, p5 _ _ (by omega) n4, by omega, fun j x hj h => p5 _ _ hj (q4 _ _ (p3 _ _ hj (p2 _ _ hj (p1 _ _ hj h))))⟩, ?_⟩, by omega⟩
  with_reducible rfl
/-! a formula that has been built: its four cells are the next ones -/
def BFP (C : co_T) (t : ab_H) (sl : Nat) (b : Bool) (O : List op_T) : Option Value → ab_H → Nat → Prop := fun v h m => some (.ref (241 + t.length)) = v ∧ (∃ t', ((∃ s, FO t' t.length (t.length + 1) (t.length + 2) (t.length + 3) O (ck b) s) ∧ tlE t t' ∧ t'.length = t.length + 4) ∧ MH C t' = h) ∧ sl + (4 + 3 * O.length) = m
set_option maxRecDepth 100000 in
theorem m_70 (hu : C.1 21 4 = nI O.length) (hl : O.length < 600) (ho : ∀ j q, O[j]? = some q → C.1 22 j = q.1 ∧ C.1 23 j = q.2) (hb : C.1 21 10 = ck b) : Wd L xs (d + 2) y_70 (0, [(0, .ref 121)], [], MH C t, sl) (BFP C t sl b O) nX := by
  refine w_p (pc1 := 1) (st1 := .int 0 :: _) rfl rfl ?_
  refine w_p (pc1 := 2) rfl rfl ?_
  refine w_m0 (pc1 := 5) (st1 := .int (nI (O.length)) :: _) rfl rfl (h_gIe (j := 4) rfl rfl rfl rfl rfl (hu)) rfl ?_
  refine w_p (pc1 := 8) (st1 := .int 600 :: _) rfl rfl ?_
  refine w_c (pc1 := 11) (st1 := .int (nI (O.length)) :: _) rfl rfl rfl (fun fr lo h1 h2 => n_miB (by omega) rfl rfl (Nat.le_of_ble_eq_true rfl) h1 h2) rfl ?_
  refine w_c (pc1 := 14) (st1 := .int (nI (O.length)) :: _) rfl rfl rfl (fun fr lo h1 h2 => n_ma0 (by omega) rfl rfl rfl (Nat.le_of_ble_eq_true rfl) h1 h2) rfl ?_
  refine w_p (pc1 := 15) (al1 := [(1, .int (nI (O.length))), (0, .ref 121)]) rfl rfl ?_
  refine w_m (pc1 := 18) rfl rfl (x_nw (c := 8) (du := 4) (fs := [.null, .null, .int 0, .null]) rfl rfl rfl rfl rfl) rfl ?_
  obtain ⟨t1, e1, n1, q1, l1⟩ := tl_mk t (.inr (8, [.null, .null, .int 0, .null]))
  rw [e1]
  have c1 := m_71_22 (L := L) (xs := xs) (C := C) (t := t1) (d := d) (sl := 0) hl
  refine w_p (pc1 := 19) rfl rfl ?_
  refine w_p (pc1 := 20) rfl rfl ?_
  refine w_m0 (pc1 := 23) rfl rfl (h_gC rfl rfl rfl rfl) rfl ?_
  refine w_p (pc1 := 24) rfl rfl ?_
  refine w_ji (pc1 := 27) (vs := [.ref 122, .int (nI (O.length))]) (rest := [.ref (241 + t.length), .ref (241 + t.length)]) (c1) rfl rfl rfl (fun _ _ => rfl) rfl (by exact cl_s my_71 rfl rfl rfl (Nat.le_of_ble_eq_true rfl) rfl rfl) (by rfl) (Nat.le_of_ble_eq_true rfl) (Nat.le_of_ble_eq_true rfl) rfl (fun v h m hq => ?_) (fun _ _ _ e => e.elim)
  obtain ⟨rfl, hh, rfl⟩ := hq
  subst hh
  obtain ⟨t2, e2, n2, q2, l2⟩ := tl_mk t1 (.inl (0, O.length, .inl (va_cpy (C.1 22) (fun _ => 0) 0 0 O.length)))
  rw [e2]
  have c2 := m_71_23 (L := L) (xs := xs) (C := C) (t := t2) (d := d) (sl := 0) hl
  refine w_p (pc1 := 28) rfl rfl ?_
  refine w_m0 (pc1 := 31) rfl rfl (h_gC rfl rfl rfl rfl) rfl ?_
  refine w_p (pc1 := 32) rfl rfl ?_
  refine w_ji (pc1 := 35) (vs := [.ref 123, .int (nI (O.length))]) (rest := [.ref (241 + t1.length), .ref (241 + t.length), .ref (241 + t.length)]) (c2) rfl rfl rfl (fun _ _ => rfl) rfl (by exact cl_s my_71 rfl rfl rfl (Nat.le_of_ble_eq_true rfl) rfl rfl) (by rfl) (Nat.le_of_ble_eq_true rfl) (Nat.le_of_ble_eq_true rfl) rfl (fun v h m hq => ?_) (fun _ _ _ e => e.elim)
  obtain ⟨rfl, hh, rfl⟩ := hq
  subst hh
  obtain ⟨t3, e3, n3, q3, l3⟩ := tl_mk t2 (.inl (0, O.length, .inl (va_cpy (C.1 23) (fun _ => 0) 0 0 O.length)))
  rw [e3]
  have c3 := m_72 (L := L) (xs := xs) (C := C) (t := t3) (d := d) (sl := 0) (k2 := t2.length) (b := b) (by omega) hl (q3 _ _ (q2 _ _ n1)) (q3 _ _ n2)
  refine w_p (pc1 := 36) rfl rfl ?_
  refine w_m0 (pc1 := 39) (st1 := .int (ck b) :: _) rfl rfl (h_gIe (j := 10) rfl rfl rfl rfl rfl (hb)) rfl ?_
  refine w_ji (pc1 := 42) (vs := [.ref (241 + t.length), .ref (241 + t1.length), .ref (241 + t2.length), .int (ck b)]) (rest := [.ref (241 + t.length)]) (c3) rfl rfl rfl (fun _ _ => rfl) rfl (by exact cl_i my_72 rfl rfl rfl (Nat.le_of_ble_eq_true rfl) rfl rfl ⟨rfl, rfl, rfl⟩ rfl) (by rfl) (Nat.le_of_ble_eq_true rfl) (Nat.le_of_ble_eq_true rfl) rfl (fun v h m hq => ?_) (fun _ _ _ e => e.elim)
  obtain ⟨rfl, ⟨t4, ⟨r1, r2, r3, r4⟩, hh⟩, rfl⟩ := hq
  subst hh
  refine w_r rfl rfl rfl (fun _ _ => rfl) rfl ?_
  have a1 : t1.length = t.length + 1 := l1
  have a2 : t2.length = t.length + 2 := by omega
  have a3 : t3.length = t.length + 3 := by omega
  rw [a1, a2, a3] at r1
  rw [a3] at r2
  rw [a1] at n2
  rw [a2] at n3
  refine ⟨rfl, ⟨t4, ⟨⟨_, r1, ⟨_, r4 _ _ (by omega) (q3 _ _ n2), fun j q hj => ?_⟩, ⟨_, r4 _ _ (by omega) n3, fun j q hj => ?_⟩, r2⟩, fun j x h => r4 _ _ (by have := get_lt h; omega) (q3 _ _ (q2 _ _ (q1 _ _ h))), by omega⟩, ?_⟩, by omega⟩
  · have := get_lt hj
    rw [va_cpy_at, if_pos (by omega), Nat.zero_add, Nat.sub_zero]
    exact (ho j q hj).1
  · have := get_lt hj
    rw [va_cpy_at, if_pos (by omega), Nat.zero_add, Nat.sub_zero]
    exact (ho j q hj).2
  · with_reducible rfl
end BLT
