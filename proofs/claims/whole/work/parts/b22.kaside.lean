
/-! ONE SIDE: rows are put aside -/
section ASD
variable {L : Nat} {xs : Nat → Int32} {B : Nat → Nat} {n m : Nat} {C C' C0 C1 : co_T} {t t0 t1 : ab_H} {d sl sl0 sl1 i i0 i1 j b e ti k k0 kc ks w c : Nat} {sc : sc_T} {row : Option Nat} {tg : Option (Nat × Nat)} {nl : Option Nat} {kd0 tb0 : Int32} {P : Option Value → ab_H → Nat → Prop} {X : Nat → ab_H → Nat → Prop} {cs : List Nat} {ss : List (Option (List op_T))} {E : fe_T} {tr : Nat → Option tr_T} {ru : Nat → Option ru_T} {wd : Nat → Nat} {rs : rs_T} {ce : Nat → Int64} {id sz la : Nat → Int32} {M : Nat → Bool} {v : Option Value}
set_option maxRecDepth 100000 in
theorem W_mR {pc : Nat} {y : mc_T} {al : List (Nat × Value)} {st : List Value} (w : Wd L xs d y (pc, al, st, MH C (msk M t), sl) (Rt v (MH C' (msk M t)) m) nX) (hM : ∀ j, M j = true → j < t.length) : Wd L xs d y (pc, al, st, MH C t, sl) (Rt v (MH C' t) m) nX := by
  refine Wd_q (W_mk (Q := fun v' C1 t1 m' => v = v' ∧ C' = C1 ∧ msk M t = t1 ∧ m = m') (QX := fun _ _ _ _ => False) w hM (fun v h m e => ?_) (fun _ _ _ e => e.elim)) (fun v h m e => ?_) (fun _ _ _ e => ?_)
  · obtain ⟨rfl, rfl, rfl⟩ := e
    exact ⟨_, _, rfl, rfl, rfl, rfl, rfl⟩
  · obtain ⟨C1, u', rfl, ⟨rfl, rfl, e, rfl⟩, f⟩ := e
    refine ⟨rfl, ?_, rfl⟩
    rw [show u' = t from List.ext_getElem? (fun j => ?_)]
    cases hm : M j with
    | true => exact (f j hm).2
    | false => rw [← msk_n (t := u') hm, ← e, msk_n hm]
  · obtain ⟨_, _, _, e, _⟩ := e
    exact e.elim
set_option maxRecDepth 100000 in
theorem m_3 (hk : t.length = k + 1) (h0 : t[k]? = some (.inr (3, [.null, .null, .null, .null]))) : Wd L xs (d + 1) y_3 (0, [(0, .ref (241 + k))], [], MH C t, sl) (fun v h q => none = v ∧ (∃ t', (RWo t' k (fun _ => 0) (fun _ => 0) (fun _ => 0) (fun _ => 0) ∧ t'.length = t.length + 4 ∧ ∀ j x, j ≠ k → t[j]? = some x → t'[j]? = some x) ∧ MH C t' = h) ∧ sl + 1692 = q) nX := by
  refine w_p (pc1 := 1) rfl rfl ?_
  refine w_c (pc1 := 4) rfl rfl rfl (fun fr lo h1 h2 => n_oi rfl (Nat.le_of_ble_eq_true rfl) h1 h2) rfl ?_
  refine w_p (pc1 := 5) rfl rfl ?_
  refine w_p (pc1 := 8) (st1 := .int 1440 :: _) rfl rfl ?_
  refine w_m (pc1 := 10) rfl rfl (x_naJ (n := 1440) (by omega)) rfl ?_
  obtain ⟨t1, e1, n1, q1, l1⟩ := tl_mk t (.inl (1, 1440, .inr (.inl (fun _ => 0))))
  rw [e1]
  have g0 := q1 _ _ h0
  refine w_m0 (pc1 := 13) rfl rfl (x_pf (k := k) (fs' := [.ref (241 + t.length), .null, .null, .null]) rfl g0 rfl rfl ⟨rfl, rfl⟩ (Or.inr ⟨rfl, rfl, rfl⟩) (Nat.le_of_ble_eq_true rfl) rfl) rfl ?_
  obtain ⟨t2, e2, g1, p2, l2⟩ := tl_st g0 (.inr (3, [.ref (241 + t.length), .null, .null, .null]))
  rw [e2]
  refine w_p (pc1 := 14) rfl rfl ?_
  refine w_p (pc1 := 17) (st1 := .int 240 :: _) rfl rfl ?_
  refine w_m (pc1 := 19) rfl rfl (x_naI (n := 240) (by omega)) rfl ?_
  obtain ⟨t3, e3, n3, q3, l3⟩ := tl_mk t2 (.inl (0, 240, .inl (fun _ => 0)))
  rw [e3]
  have g2 := q3 _ _ g1
  refine w_m0 (pc1 := 22) rfl rfl (x_pf (k := k) (fs' := [.ref (241 + t.length), .ref (241 + t2.length), .null, .null]) rfl g2 rfl rfl ⟨rfl, rfl⟩ (Or.inr ⟨rfl, rfl, rfl⟩) (Nat.le_of_ble_eq_true rfl) rfl) rfl ?_
  obtain ⟨t4, e4, g3, p4, l4⟩ := tl_st g2 (.inr (3, [.ref (241 + t.length), .ref (241 + t2.length), .null, .null]))
  rw [e4]
  refine w_p (pc1 := 23) rfl rfl ?_
  refine w_p (pc1 := 25) (st1 := .int 6 :: _) rfl rfl ?_
  refine w_m (pc1 := 27) rfl rfl (x_naI (n := 6) (by omega)) rfl ?_
  obtain ⟨t5, e5, n5, q5, l5⟩ := tl_mk t4 (.inl (0, 6, .inl (fun _ => 0)))
  rw [e5]
  have g4 := q5 _ _ g3
  refine w_m0 (pc1 := 30) rfl rfl (x_pf (k := k) (fs' := [.ref (241 + t.length), .ref (241 + t2.length), .ref (241 + t4.length), .null]) rfl g4 rfl rfl ⟨rfl, rfl⟩ (Or.inr ⟨rfl, rfl, rfl⟩) (Nat.le_of_ble_eq_true rfl) rfl) rfl ?_
  obtain ⟨t6, e6, g5, p6, l6⟩ := tl_st g4 (.inr (3, [.ref (241 + t.length), .ref (241 + t2.length), .ref (241 + t4.length), .null]))
  rw [e6]
  refine w_p (pc1 := 31) rfl rfl ?_
  refine w_p (pc1 := 33) (st1 := .int 6 :: _) rfl rfl ?_
  refine w_m (pc1 := 35) rfl rfl (x_naI (n := 6) (by omega)) rfl ?_
  obtain ⟨t7, e7, n7, q7, l7⟩ := tl_mk t6 (.inl (0, 6, .inl (fun _ => 0)))
  rw [e7]
  have g6 := q7 _ _ g5
  refine w_m0 (pc1 := 38) rfl rfl (x_pf (k := k) (fs' := [.ref (241 + t.length), .ref (241 + t2.length), .ref (241 + t4.length), .ref (241 + t6.length)]) rfl g6 rfl rfl ⟨rfl, rfl⟩ (Or.inr ⟨rfl, rfl, rfl⟩) (Nat.le_of_ble_eq_true rfl) rfl) rfl ?_
  obtain ⟨t8, e8, g7, p8, l8⟩ := tl_st g6 (.inr (3, [.ref (241 + t.length), .ref (241 + t2.length), .ref (241 + t4.length), .ref (241 + t6.length)]))
  rw [e8]
  refine w_r rfl rfl rfl (fun _ _ => rfl) rfl ?_
  have a1 : t2.length = t.length + 1 := by omega
  have a2 : t4.length = t.length + 2 := by omega
  have a3 : t6.length = t.length + 3 := by omega
  rw [a1] at n3
  rw [a2] at n5
  rw [a3] at n7
  rw [a1, a2, a3] at g7
  rw [hk] at g7 n1 n3 n5 n7
  refine ⟨rfl, ⟨t8, ⟨⟨g7, ?_, ?_, ?_, ?_⟩, by omega, fun j x hj h => p8 _ _ hj (q7 _ _ (p6 _ _ hj (q5 _ _ (p4 _ _ hj (q3 _ _ (p2 _ _ hj (q1 _ _ h)))))))⟩, ?_⟩, by omega⟩
  · exact p8 _ _ (by omega) (q7 _ _ (p6 _ _ (by omega) (q5 _ _ (p4 _ _ (by omega) (q3 _ _ (p2 _ _ (by omega) n1))))))
  · exact p8 _ _ (by omega) (q7 _ _ (p6 _ _ (by omega) (q5 _ _ (p4 _ _ (by omega) n3))))
  · exact p8 _ _ (by omega) (q7 _ _ (p6 _ _ (by omega) n5))
  · exact p8 _ _ (by omega) n7
  · with_reducible rfl
set_option maxRecDepth 100000 in
theorem tlE_x {u t' : ab_H} (h : tlE u t') : ∃ q, t' = u ++ q := by
  refine ⟨t'.drop u.length, List.ext_getElem? (fun j => ?_)⟩
  by_cases hj : j < u.length
  · rw [List.getElem?_append_left hj]
    have e := List.getElem?_eq_getElem hj
    rw [e]
    exact h j _ e
  · rw [List.getElem?_append_right (by omega), List.getElem?_drop, show u.length + (j - u.length) = j by omega]
set_option maxRecDepth 100000 in
theorem m_151n (W : RWf (C.2.1 14) (C.1 15) (C.1 16) wd rs) (hl : ∀ q, q < 6 → C.1 17 q = (rs q).2) : Wd L xs (d + 2) y_151 (0, [(0, .ref 106), (1, .null)], [], MH C t, sl) (fun v h q => some (.ref (241 + t.length)) = v ∧ (∃ t', (t'.length = t.length + 5 ∧ tlE t t' ∧ RWt t' t.length wd rs) ∧ MH C t' = h) ∧ q ≤ sl + 1700) nX := by
  refine w_p (pc1 := 1) rfl rfl ?_
  refine w_f (a := 14) (b := 4) rfl rfl rfl ?_
  refine w_m (pc1 := 7) rfl rfl (x_nw (c := 3) (fs := [.null, .null, .null, .null]) (du := 4) rfl rfl rfl rfl rfl) rfl ?_
  obtain ⟨t1, e1, n1, q1, l1⟩ := tl_mk t (.inr (3, [.null, .null, .null, .null]))
  rw [e1]
  refine w_p (pc1 := 8) rfl rfl ?_
  refine w_ji (pc1 := 11) (vs := [.ref (241 + t.length)]) (rest := [.ref (241 + t.length)]) (m_3 (d := d) (sl := 0) l1 n1) rfl rfl rfl (fun _ _ => rfl) rfl (by exact cl_i my_3 rfl rfl rfl (Nat.le_of_ble_eq_true rfl) rfl rfl ⟨rfl, rfl, rfl⟩ rfl) (by rfl) (Nat.le_of_ble_eq_true rfl) (Nat.le_of_ble_eq_true rfl) rfl (fun v h q hq => ?_) (fun _ _ _ e => e.elim)
  obtain ⟨rfl, ⟨t2, ⟨n2, l2, p2⟩, rfl⟩, rfl⟩ := hq
  refine w_p (pc1 := 15) rfl rfl ?_
  refine w_p (pc1 := 16) (al1 := [(2, .ref (241 + t.length)), (0, .ref 106), (1, .null)]) rfl rfl ?_
  refine w_p (pc1 := 17) rfl rfl ?_
  refine w_p (pc1 := 18) rfl rfl ?_
  refine w_m0 (pc1 := 21) rfl rfl (h_gC rfl rfl rfl rfl) rfl ?_
  refine w_ji (pc1 := 24) (vs := [.ref (241 + t.length), .ref 113]) (rest := []) (m_106_u (d := d) (sl := 0) W hl n2) rfl rfl rfl (fun _ _ => rfl) rfl (by exact cl_v my_106 rfl rfl rfl (Nat.le_of_ble_eq_true rfl) rfl (x_obj n2.1) rfl (by decide) rfl rfl) (by rfl) (Nat.le_of_ble_eq_true rfl) (Nat.le_of_ble_eq_true rfl) rfl (fun v h q hq => ?_) (fun _ _ _ e => e.elim)
  obtain ⟨rfl, ⟨t3, ⟨f3, n3⟩, rfl⟩, rfl⟩ := hq
  refine w_p (pc1 := 25) rfl rfl ?_
  refine w_r rfl rfl rfl (fun _ _ => rfl) rfl ?_
  refine ⟨rfl, ⟨t3, ⟨by rw [f3.1]; omega, fun j c hj => ?_, n3⟩, rfl⟩, by omega⟩
  have hj2 := get_lt hj
  rw [f3.2 j (by omega)]
  exact p2 j c (by omega) (q1 j c hj)
set_option maxRecDepth 100000 in
theorem m_151y (W : RWf (C.2.1 14) (C.1 15) (C.1 16) wd rs) (hl : ∀ q, q < 6 → C.1 17 q = (rs q).2) (R : RWo t k ce id sz la) : Wd L xs (d + 2) y_151 (0, [(0, .ref 106), (1, .ref (241 + k))], [], MH C t, sl) (fun v h q => some (.ref (241 + k)) = v ∧ (∃ t', (frU k t t' ∧ RWt t' k wd rs) ∧ MH C t' = h) ∧ sl = q) nX := by
  refine w_p (pc1 := 1) rfl rfl ?_
  refine w_t (a := 14) (b := 4) rfl rfl rfl ?_
  refine w_p (pc1 := 15) rfl rfl ?_
  refine w_p (pc1 := 16) (al1 := [(2, .ref (241 + k)), (0, .ref 106), (1, .ref (241 + k))]) rfl rfl ?_
  refine w_p (pc1 := 17) rfl rfl ?_
  refine w_p (pc1 := 18) rfl rfl ?_
  refine w_m0 (pc1 := 21) rfl rfl (h_gC rfl rfl rfl rfl) rfl ?_
  refine w_ji (pc1 := 24) (vs := [.ref (241 + k), .ref 113]) (rest := []) (m_106_u (d := d) (sl := 0) W hl R) rfl rfl rfl (fun _ _ => rfl) rfl (by exact cl_v my_106 rfl rfl rfl (Nat.le_of_ble_eq_true rfl) rfl (x_obj R.1) rfl (by decide) rfl rfl) (by rfl) (Nat.le_of_ble_eq_true rfl) (Nat.le_of_ble_eq_true rfl) rfl (fun v h q hq => ?_) (fun _ _ _ e => e.elim)
  obtain ⟨rfl, ⟨t3, ⟨f3, n3⟩, rfl⟩, rfl⟩ := hq
  refine w_p (pc1 := 25) rfl rfl ?_
  refine w_r rfl rfl rfl (fun _ _ => rfl) rfl ?_
  exact ⟨rfl, ⟨t3, ⟨f3, n3⟩, rfl⟩, rfl⟩
/-! a transaction begins, ends, goes back -/
abbrev bgnC (C : co_T) (w : Int32) (k : Nat) : co_T := sQ (sI (sI C 6 7 1) 6 8 w) 6 9 (some (241 + k))
set_option maxRecDepth 100000 in
theorem m_149n (hM : ∀ j, M j = true → j < t.length) (hR : RLK C (msk M t) ru) (hA : C.2.2 6 9 = none) (W : RWf (C.2.1 14) (C.1 15) (C.1 16) wd rs) (hl : ∀ q, q < 6 → C.1 17 q = (rs q).2) : Wd L xs (d + 3) y_149 (0, [(0, .ref 106)], [], MH C t, sl) (fun v h q => none = v ∧ (∃ t', (t'.length = t.length + 5 ∧ tlE t t' ∧ RWt t' t.length wd rs) ∧ MH (bgnC C (wtI ru 24 0 0) t.length) t' = h) ∧ q ≤ sl + 1700) nX := by
  have hA2 : (sI (sI C 6 7 1) 6 8 (wtI ru 24 0 0)).2.2 6 9 = none := hA
  refine w_p (pc1 := 1) rfl rfl ?_
  refine w_p (pc1 := 2) (st1 := .int 1 :: _) rfl rfl ?_
  refine w_m0 (pc1 := 5) rfl rfl (h_pI (j := 7) rfl rfl rfl rfl rfl rfl rfl ⟨rfl, rfl⟩ rfl) rfl ?_
  refine w_p (pc1 := 6) rfl rfl ?_
  refine w_p (pc1 := 7) rfl rfl ?_
  refine w_je (pc1 := 10) (vs := [.ref 106]) (rest := [.ref 106]) (st1 := [.int (wtI ru 24 0 0), .ref 106]) (W_mR (m_150 (d := d + 2) (sl := 0) (C := sI C 6 7 1) hR) hM) rfl rfl rfl (fun _ _ => rfl) rfl (by exact cl_v my_150 rfl rfl rfl (Nat.le_of_ble_eq_true rfl) rfl (MH_obj rfl rfl) rfl (by decide) rfl rfl) (by rfl) (Nat.le_of_ble_eq_true rfl) (Nat.le_of_ble_eq_true rfl) rfl (by rfl) ?_
  refine w_m0 (pc1 := 13) rfl rfl (h_pI (j := 8) rfl rfl rfl rfl rfl rfl rfl ⟨rfl, rfl⟩ rfl) rfl ?_
  refine w_p (pc1 := 14) rfl rfl ?_
  refine w_p (pc1 := 15) rfl rfl ?_
  refine w_p (pc1 := 16) rfl rfl ?_
  refine w_m0 (pc1 := 19) (st1 := .null :: _) rfl rfl (h_gRn (j := 9) rfl rfl rfl rfl rfl (hA2)) rfl ?_
  refine w_ji (pc1 := 22) (vs := [.ref 106, .null]) (rest := [.ref 106]) (m_151n (d := d) (sl := 0) (C := sI (sI C 6 7 1) 6 8 (wtI ru 24 0 0)) W hl) rfl rfl rfl (fun _ _ => rfl) rfl (by exact cl_v my_151 rfl rfl rfl (Nat.le_of_ble_eq_true rfl) rfl (MH_obj rfl rfl) rfl (by decide) rfl rfl) (by rfl) (Nat.le_of_ble_eq_true rfl) (Nat.le_of_ble_eq_true rfl) rfl (fun v h q hq => ?_) (fun _ _ _ e => e.elim)
  obtain ⟨rfl, ⟨t3, n3, rfl⟩, hq⟩ := hq
  refine w_m0 (pc1 := 25) rfl rfl (h_pR (j := 9) (v := some _) rfl rfl rfl rfl rfl rfl rfl ⟨rfl, rfl⟩ rfl) rfl ?_
  refine w_r rfl rfl rfl (fun _ _ => rfl) rfl ?_
  exact ⟨rfl, ⟨t3, n3, rfl⟩, by omega⟩
set_option maxRecDepth 100000 in
theorem m_149y (hM : ∀ j, M j = true → j < t.length) (hR : RLK C (msk M t) ru) (hA : C.2.2 6 9 = some (241 + k)) (R : RWo t k ce id sz la) (W : RWf (C.2.1 14) (C.1 15) (C.1 16) wd rs) (hl : ∀ q, q < 6 → C.1 17 q = (rs q).2) : Wd L xs (d + 3) y_149 (0, [(0, .ref 106)], [], MH C t, sl) (fun v h q => none = v ∧ (∃ t', (frU k t t' ∧ RWt t' k wd rs) ∧ MH (bgnC C (wtI ru 24 0 0) k) t' = h) ∧ sl = q) nX := by
  have hA2 : (sI (sI C 6 7 1) 6 8 (wtI ru 24 0 0)).2.2 6 9 = some (241 + k) := hA
  refine w_p (pc1 := 1) rfl rfl ?_
  refine w_p (pc1 := 2) (st1 := .int 1 :: _) rfl rfl ?_
  refine w_m0 (pc1 := 5) rfl rfl (h_pI (j := 7) rfl rfl rfl rfl rfl rfl rfl ⟨rfl, rfl⟩ rfl) rfl ?_
  refine w_p (pc1 := 6) rfl rfl ?_
  refine w_p (pc1 := 7) rfl rfl ?_
  refine w_je (pc1 := 10) (vs := [.ref 106]) (rest := [.ref 106]) (st1 := [.int (wtI ru 24 0 0), .ref 106]) (W_mR (m_150 (d := d + 2) (sl := 0) (C := sI C 6 7 1) hR) hM) rfl rfl rfl (fun _ _ => rfl) rfl (by exact cl_v my_150 rfl rfl rfl (Nat.le_of_ble_eq_true rfl) rfl (MH_obj rfl rfl) rfl (by decide) rfl rfl) (by rfl) (Nat.le_of_ble_eq_true rfl) (Nat.le_of_ble_eq_true rfl) rfl (by rfl) ?_
  refine w_m0 (pc1 := 13) rfl rfl (h_pI (j := 8) rfl rfl rfl rfl rfl rfl rfl ⟨rfl, rfl⟩ rfl) rfl ?_
  refine w_p (pc1 := 14) rfl rfl ?_
  refine w_p (pc1 := 15) rfl rfl ?_
  refine w_p (pc1 := 16) rfl rfl ?_
  refine w_m0 (pc1 := 19) (st1 := .ref (241 + k) :: _) rfl rfl (h_gRs (j := 9) rfl rfl rfl rfl rfl (hA2)) rfl ?_
  refine w_ji (pc1 := 22) (vs := [.ref 106, .ref (241 + k)]) (rest := [.ref 106]) (m_151y (d := d) (sl := 0) (C := sI (sI C 6 7 1) 6 8 (wtI ru 24 0 0)) W hl R) rfl rfl rfl (fun _ _ => rfl) rfl (by exact cl_v my_151 rfl rfl rfl (Nat.le_of_ble_eq_true rfl) rfl (MH_obj rfl rfl) rfl (by decide) rfl rfl) (by rfl) (Nat.le_of_ble_eq_true rfl) (Nat.le_of_ble_eq_true rfl) rfl (fun v h q hq => ?_) (fun _ _ _ e => e.elim)
  obtain ⟨rfl, ⟨t3, n3, rfl⟩, rfl⟩ := hq
  refine w_m0 (pc1 := 25) rfl rfl (h_pR (j := 9) (v := some _) rfl rfl rfl rfl rfl rfl rfl ⟨rfl, rfl⟩ rfl) rfl ?_
  refine w_r rfl rfl rfl (fun _ _ => rfl) rfl ?_
  exact ⟨rfl, ⟨t3, n3, rfl⟩, rfl⟩
end ASD
