
/-! ONE SIDE: a table is read, 1: what the store does; a new rule -/
def ruN (ru : Nat → Option ru_T) : Int32 := fnd (fun j => (ru j).isNone) 24 0
section TAB
variable {L : Nat} {xs : Nat → Int32} {B : Nat → Nat} {n m : Nat} {C C' C0 C1 : co_T} {t t0 t1 : ab_H} {d sl sl0 sl1 i i0 i1 j b e ti k k0 kc ks w c : Nat} {sc : sc_T} {row : Option Nat} {tg : Option (Nat × Nat)} {nl : Option Nat} {kd0 tb0 : Int32} {P : Option Value → ab_H → Nat → Prop} {X : Nat → ab_H → Nat → Prop} {cs : List Nat} {ss : List (Option (List op_T))} {E : fe_T} {tr : Nat → Option tr_T} {ru : Nat → Option ru_T}
set_option maxRecDepth 100000 in
theorem ruN_K (h : RLK C t ru) : fnd (fun i => !isR C i) 24 0 = ruN ru := fnd_c 24 0 (fun j _ hj => by
  have := h j (by omega)
  cases e : ru j with
  | none =>
    rw [e] at this
    have this : C.2.2 11 j = none := this
    show (!(C.2.2 11 j).isSome) = true
    rw [this]
    rfl
  | some g =>
    rw [e] at this
    obtain ⟨k, e1, _⟩ := this
    show (!(C.2.2 11 j).isSome) = false
    rw [e1]
    rfl)
set_option maxRecDepth 100000 in
theorem m_37 {nm : Int64} (hS : SCK C sc) (hb : tbN sc.1 = nI b) (h6 : b < 6) : Wd L xs (d + 2) y_37 (0, [(0, .ref 106), (1, .long nm)], [], MH C t, sl) (Rt (some (.int (nI b))) (MH (sJ C 7 b nm) t) sl) nX := by
  have h35 := m_35 (L := L) (xs := xs) (C := C) (t := t) (d := d) (sl := 0)
  rw [tbN_K hS, hb] at h35
  refine w_p (pc1 := 1) rfl rfl ?_
  refine w_je (pc1 := 4) (vs := [.ref 106]) (rest := []) (st1 := [.int (nI (b))]) (h35) rfl rfl rfl (fun _ _ => rfl) rfl (by exact cl_v my_35 rfl rfl rfl (Nat.le_of_ble_eq_true rfl) rfl (MH_obj rfl rfl) rfl (by decide) rfl rfl) (by rfl) (Nat.le_of_ble_eq_true rfl) (Nat.le_of_ble_eq_true rfl) rfl (by rfl) ?_
  refine w_p (pc1 := 5) (al1 := [(3, .int (nI (b))), (0, .ref 106), (1, .long (nm))]) rfl rfl ?_
  refine w_p (pc1 := 6) rfl rfl ?_
  refine w_p (pc1 := 7) (st1 := .int (-1) :: _) rfl rfl ?_
  refine w_f (a := 17) (b := 10) (cb_eq_f (by exact nK_m1 (by omega))) rfl rfl ?_
  refine w_p (pc1 := 11) rfl rfl ?_
  refine w_m0 (pc1 := 14) rfl rfl (h_gC rfl rfl rfl rfl) rfl ?_
  refine w_p (pc1 := 15) rfl rfl ?_
  refine w_p (pc1 := 16) rfl rfl ?_
  refine w_m0 (pc1 := 17) rfl rfl (n_ls (e := b) rfl rfl rfl (by omega)) rfl ?_
  refine w_p (pc1 := 18) rfl rfl ?_
  refine w_r rfl rfl rfl (fun _ _ => rfl) cr_int ?_
  exact ⟨rfl, rfl, rfl⟩
set_option maxRecDepth 100000 in
theorem isT_K (hS : SCK C sc) (h6 : b < 6) (hn : sc.1 b ≠ 0) : isT C b = true := by
  unfold isT
  rw [hS.1 b h6, decide_eq_false hn]
  rfl
def acC (C : co_T) (b w : Nat) (v : Int64) : co_T := sI (sJ (sJ C 9 (b * 6 + w) v) 10 (b * 6 + w) (-9223372036854775808)) 8 b (nI (w + 1))
set_option maxRecDepth 100000 in
theorem m_42y {v : Int64} (hT : isT C b = true) (h6 : b < 6) (hw : C.1 8 b = nI w) (hw6 : w < 6) : Wd L xs (d + 2) y_42 (0, [(0, .ref 106), (1, .int (nI b)), (2, .long v)], [], MH C t, sl) (Rt (some (.int (nI w))) (MH (acC C b w v) t) sl) nX := by
  have h43 := m_43t (L := L) (xs := xs) (C := C) (t := t) (d := d) (sl := 0) h6 hT
  rw [hw] at h43
  refine w_p (pc1 := 1) rfl rfl ?_
  refine w_p (pc1 := 2) rfl rfl ?_
  refine w_je (pc1 := 5) (vs := [.ref 106, .int (nI (b))]) (rest := []) (st1 := [.int (nI (w))]) (h43) rfl rfl rfl (fun _ _ => rfl) rfl (by exact cl_v my_43 rfl rfl rfl (Nat.le_of_ble_eq_true rfl) rfl (MH_obj rfl rfl) rfl (by decide) rfl rfl) (by rfl) (Nat.le_of_ble_eq_true rfl) (Nat.le_of_ble_eq_true rfl) rfl (by rfl) ?_
  refine w_p (pc1 := 7) (al1 := [(4, .int (nI (w))), (0, .ref 106), (1, .int (nI (b))), (2, .long (v))]) rfl rfl ?_
  refine w_p (pc1 := 8) rfl rfl ?_
  refine w_p (pc1 := 9) rfl rfl ?_
  refine w_je (pc1 := 12) (vs := [.ref 106, .int (nI (b))]) (rest := []) (st1 := [.int 1]) (m_33t (d := d + 1) (sl := 0) h6 hT) rfl rfl rfl (fun _ _ => rfl) rfl (by exact cl_v my_33 rfl rfl rfl (Nat.le_of_ble_eq_true rfl) rfl (MH_obj rfl rfl) rfl (by decide) rfl rfl) (by rfl) (Nat.le_of_ble_eq_true rfl) (Nat.le_of_ble_eq_true rfl) rfl (by rfl) ?_
  refine w_f (a := 22) (b := 15) rfl rfl rfl ?_
  refine w_p (pc1 := 17) rfl rfl ?_
  refine w_p (pc1 := 19) (st1 := .int 6 :: _) rfl rfl ?_
  refine w_t (a := 24) (b := 22) (bN_lt_t (a := w) (b := 6) (by omega) (by omega) (by omega)) rfl rfl ?_
  refine w_p (pc1 := 25) rfl rfl ?_
  refine w_m0 (pc1 := 28) rfl rfl (h_gC rfl rfl rfl rfl) rfl ?_
  refine w_p (pc1 := 29) rfl rfl ?_
  refine w_p (pc1 := 31) (st1 := .int 6 :: _) rfl rfl ?_
  refine w_imul (pc1 := 32) (u := nI (b)) (v := nI (6)) (z := nI (b * 6)) rfl (nK_mul) rfl ?_
  refine w_p (pc1 := 34) rfl rfl ?_
  refine w_iadd (pc1 := 35) (u := nI (b * 6)) (v := nI (w)) (z := nI (b * 6 + w)) rfl (nK_add) rfl ?_
  refine w_p (pc1 := 36) rfl rfl ?_
  refine w_m0 (pc1 := 37) rfl rfl (n_ls (e := b * 6 + w) rfl rfl rfl (by omega)) rfl ?_
  refine w_p (pc1 := 38) rfl rfl ?_
  refine w_m0 (pc1 := 41) rfl rfl (h_gC rfl rfl rfl rfl) rfl ?_
  refine w_p (pc1 := 42) rfl rfl ?_
  refine w_p (pc1 := 44) (st1 := .int 6 :: _) rfl rfl ?_
  refine w_imul (pc1 := 45) (u := nI (b)) (v := nI (6)) (z := nI (b * 6)) rfl (nK_mul) rfl ?_
  refine w_p (pc1 := 47) rfl rfl ?_
  refine w_iadd (pc1 := 48) (u := nI (b * 6)) (v := nI (w)) (z := nI (b * 6 + w)) rfl (nK_add) rfl ?_
  refine w_m0 (pc1 := 51) (st1 := .long (-9223372036854775808) :: _) rfl rfl rfl rfl ?_
  refine w_m0 (pc1 := 52) rfl rfl (n_ls (e := b * 6 + w) rfl rfl rfl (by omega)) rfl ?_
  refine w_p (pc1 := 53) rfl rfl ?_
  refine w_m0 (pc1 := 56) rfl rfl (h_gC rfl rfl rfl rfl) rfl ?_
  refine w_p (pc1 := 57) rfl rfl ?_
  refine w_p (pc1 := 58) rfl rfl ?_
  refine w_m0 (pc1 := 59) (st1 := .int (nI (w)) :: _) rfl rfl (n_ile (e := b) rfl rfl rfl (by omega) (hw)) rfl ?_
  refine w_p (pc1 := 60) (st1 := .int 1 :: _) rfl rfl ?_
  refine w_iadd (pc1 := 61) (u := nI (w)) (v := nI (1)) (z := nI (w + 1)) rfl (nK_add) rfl ?_
  refine w_m0 (pc1 := 62) rfl rfl (n_is (e := b) rfl rfl rfl (by omega)) rfl ?_
  refine w_p (pc1 := 64) rfl rfl ?_
  refine w_r rfl rfl rfl (fun _ _ => rfl) cr_int ?_
  exact ⟨rfl, rfl, rfl⟩
set_option maxRecDepth 100000 in
theorem m_42n {v : Int64} (hT : isT C b = true) (h6 : b < 6) (hw : C.1 8 b = nI 6) : Wd L xs (d + 2) y_42 (0, [(0, .ref 106), (1, .int (nI b)), (2, .long v)], [], MH C t, sl) (Rt (some (.int (-1))) (MH C t) sl) nX := by
  have h43 := m_43t (L := L) (xs := xs) (C := C) (t := t) (d := d) (sl := 0) h6 hT
  rw [hw] at h43
  refine w_p (pc1 := 1) rfl rfl ?_
  refine w_p (pc1 := 2) rfl rfl ?_
  refine w_je (pc1 := 5) (vs := [.ref 106, .int (nI (b))]) (rest := []) (st1 := [.int (nI (6))]) (h43) rfl rfl rfl (fun _ _ => rfl) rfl (by exact cl_v my_43 rfl rfl rfl (Nat.le_of_ble_eq_true rfl) rfl (MH_obj rfl rfl) rfl (by decide) rfl rfl) (by rfl) (Nat.le_of_ble_eq_true rfl) (Nat.le_of_ble_eq_true rfl) rfl (by rfl) ?_
  refine w_p (pc1 := 7) (al1 := [(4, .int (nI (6))), (0, .ref 106), (1, .int (nI (b))), (2, .long (v))]) rfl rfl ?_
  refine w_p (pc1 := 8) rfl rfl ?_
  refine w_p (pc1 := 9) rfl rfl ?_
  refine w_je (pc1 := 12) (vs := [.ref 106, .int (nI (b))]) (rest := []) (st1 := [.int 1]) (m_33t (d := d + 1) (sl := 0) h6 hT) rfl rfl rfl (fun _ _ => rfl) rfl (by exact cl_v my_33 rfl rfl rfl (Nat.le_of_ble_eq_true rfl) rfl (MH_obj rfl rfl) rfl (by decide) rfl rfl) (by rfl) (Nat.le_of_ble_eq_true rfl) (Nat.le_of_ble_eq_true rfl) rfl (by rfl) ?_
  refine w_f (a := 22) (b := 15) rfl rfl rfl ?_
  refine w_p (pc1 := 17) rfl rfl ?_
  refine w_p (pc1 := 19) (st1 := .int 6 :: _) rfl rfl ?_
  refine w_f (a := 24) (b := 22) (bN_lt_f (a := 6) (b := 6) (by omega) (by omega) (by omega)) rfl rfl ?_
  refine w_p (pc1 := 23) (st1 := .int (-1) :: _) rfl rfl ?_
  refine w_r rfl rfl rfl (fun _ _ => rfl) cr_int ?_
  exact ⟨rfl, rfl, rfl⟩
set_option maxRecDepth 100000 in
theorem m_46 {v : Int64} (h6 : b < 6) (hw : C.1 8 b = nI w) (hw6 : w ≤ 6) (hc : c < w) : Wd L xs (d + 1) y_46 (0, [(0, .ref 106), (1, .int (nI b)), (2, .int (nI c)), (3, .long v)], [], MH C t, sl) (Rt none (MH (sJ C 10 (b * 6 + c) v) t) sl) nX := by
  refine w_p (pc1 := 1) rfl rfl ?_
  refine w_p (pc1 := 2) rfl rfl ?_
  refine w_p (pc1 := 3) rfl rfl ?_
  refine w_je (pc1 := 6) (vs := [.ref 106, .int (nI (b)), .int (nI (c))]) (rest := []) (st1 := [.int 1]) (m_47 (d := d) (sl := 0) h6 hw hw6 hc) rfl rfl rfl (fun _ _ => rfl) rfl (by exact cl_v my_47 rfl rfl rfl (Nat.le_of_ble_eq_true rfl) rfl (MH_obj rfl rfl) rfl (by decide) rfl rfl) (by rfl) (Nat.le_of_ble_eq_true rfl) (Nat.le_of_ble_eq_true rfl) rfl (by rfl) ?_
  refine w_f (a := 21) (b := 9) rfl rfl rfl ?_
  refine w_p (pc1 := 10) rfl rfl ?_
  refine w_m0 (pc1 := 13) rfl rfl (h_gC rfl rfl rfl rfl) rfl ?_
  refine w_p (pc1 := 14) rfl rfl ?_
  refine w_p (pc1 := 16) (st1 := .int 6 :: _) rfl rfl ?_
  refine w_imul (pc1 := 17) (u := nI (b)) (v := nI (6)) (z := nI (b * 6)) rfl (nK_mul) rfl ?_
  refine w_p (pc1 := 18) rfl rfl ?_
  refine w_iadd (pc1 := 19) (u := nI (b * 6)) (v := nI (c)) (z := nI (b * 6 + c)) rfl (nK_add) rfl ?_
  refine w_p (pc1 := 20) rfl rfl ?_
  refine w_m0 (pc1 := 21) rfl rfl (n_ls (e := b * 6 + c) rfl rfl rfl (by omega)) rfl ?_
  refine w_r rfl rfl rfl (fun _ _ => rfl) rfl ?_
  exact ⟨rfl, rfl, rfl⟩
def RP (t : ab_H) (k kc kt : Nat) (kd tb : Int32) (fc ft : Nat → Int32) (sz tg mw od ou : Int32) (vc : Value) : Prop := t[k]? = some (.inr (7, [.int kd, .int tb, .ref (241 + kc), .ref (241 + kt), .int sz, .int tg, .int mw, .int od, .int ou, vc])) ∧ t[kc]? = some (.inl (0, 6, .inl fc)) ∧ t[kt]? = some (.inl (0, 6, .inl ft))
set_option maxRecDepth 100000 in
theorem m_51 (h0 : t[k]? = some (.inr (7, [.int 0, .int 0, .null, .null, .int 0, .int 0, .int 0, .int 0, .int 0, .null]))) : Wd L xs (d + 1) y_51 (0, [(0, .ref (241 + k)), (1, .int kd0), (2, .int tb0)], [], MH C t, sl) (fun v h q => none = v ∧ (∃ t', (RP t' k t.length (t.length + 1) kd0 tb0 (fun _ => 0) (fun _ => 0) 0 (-1) 0 0 0 .null ∧ t'.length = t.length + 2 ∧ ∀ j x, j ≠ k → t[j]? = some x → t'[j]? = some x) ∧ MH C t' = h) ∧ sl + 12 = q) nX := by
  have hkl : k < t.length := get_lt h0
  refine w_p (pc1 := 1) rfl rfl ?_
  refine w_c (pc1 := 4) rfl rfl rfl (fun fr lo h1 h2 => n_oi rfl (Nat.le_of_ble_eq_true rfl) h1 h2) rfl ?_
  refine w_p (pc1 := 5) rfl rfl ?_
  refine w_p (pc1 := 7) (st1 := .int 6 :: _) rfl rfl ?_
  refine w_m (pc1 := 9) rfl rfl (x_naI (n := 6) (by omega)) rfl ?_
  obtain ⟨t1, e1, n1, q1, l1⟩ := tl_mk t (.inl (0, 6, .inl (fun _ => 0)))
  rw [e1]
  have g0 := q1 _ _ h0
  refine w_m0 (pc1 := 12) rfl rfl (x_pf (k := k) (fs' := [.int 0, .int 0, .ref (241 + t.length), .null, .int 0, .int 0, .int 0, .int 0, .int 0, .null]) rfl g0 rfl rfl ⟨rfl, rfl⟩ (Or.inr ⟨rfl, rfl, rfl⟩) (Nat.le_of_ble_eq_true rfl) rfl) rfl ?_
  obtain ⟨t2, e2, g1, pt2, lt2⟩ := tl_st g0 (.inr (7, [.int 0, .int 0, .ref (241 + t.length), .null, .int 0, .int 0, .int 0, .int 0, .int 0, .null]))
  rw [e2]
  refine w_p (pc1 := 13) rfl rfl ?_
  refine w_p (pc1 := 15) (st1 := .int 6 :: _) rfl rfl ?_
  refine w_m (pc1 := 17) rfl rfl (x_naI (n := 6) (by omega)) rfl ?_
  obtain ⟨t3, e3, n3, q3, l3⟩ := tl_mk t2 (.inl (0, 6, .inl (fun _ => 0)))
  rw [e3]
  have g2 := q3 _ _ g1
  refine w_m0 (pc1 := 20) rfl rfl (x_pf (k := k) (fs' := [.int 0, .int 0, .ref (241 + t.length), .ref (241 + t2.length), .int 0, .int 0, .int 0, .int 0, .int 0, .null]) rfl g2 rfl rfl ⟨rfl, rfl⟩ (Or.inr ⟨rfl, rfl, rfl⟩) (Nat.le_of_ble_eq_true rfl) rfl) rfl ?_
  obtain ⟨t4, e4, g3, pt4, lt4⟩ := tl_st g2 (.inr (7, [.int 0, .int 0, .ref (241 + t.length), .ref (241 + t2.length), .int 0, .int 0, .int 0, .int 0, .int 0, .null]))
  rw [e4]
  refine w_p (pc1 := 21) rfl rfl ?_
  refine w_p (pc1 := 22) (st1 := .int (-1) :: _) rfl rfl ?_
  refine w_m0 (pc1 := 25) rfl rfl (x_pf (k := k) (fs' := [.int 0, .int 0, .ref (241 + t.length), .ref (241 + t2.length), .int 0, .int (-1), .int 0, .int 0, .int 0, .null]) rfl g3 rfl rfl ⟨rfl, rfl⟩ (Or.inl rfl) (Nat.le_of_ble_eq_true rfl) rfl) rfl ?_
  obtain ⟨t5, e5, g4, pt5, lt5⟩ := tl_st g3 (.inr (7, [.int 0, .int 0, .ref (241 + t.length), .ref (241 + t2.length), .int 0, .int (-1), .int 0, .int 0, .int 0, .null]))
  rw [e5]
  refine w_p (pc1 := 26) rfl rfl ?_
  refine w_p (pc1 := 27) rfl rfl ?_
  refine w_m0 (pc1 := 30) rfl rfl (x_pf (k := k) (fs' := [.int (kd0), .int 0, .ref (241 + t.length), .ref (241 + t2.length), .int 0, .int (-1), .int 0, .int 0, .int 0, .null]) rfl g4 rfl rfl ⟨rfl, rfl⟩ (Or.inr ⟨rfl, rfl, rfl⟩) (Nat.le_of_ble_eq_true rfl) rfl) rfl ?_
  obtain ⟨t6, e6, g5, pt6, lt6⟩ := tl_st g4 (.inr (7, [.int kd0, .int 0, .ref (241 + t.length), .ref (241 + t2.length), .int 0, .int (-1), .int 0, .int 0, .int 0, .null]))
  rw [e6]
  refine w_p (pc1 := 31) rfl rfl ?_
  refine w_p (pc1 := 32) rfl rfl ?_
  refine w_m0 (pc1 := 35) rfl rfl (x_pf (k := k) (fs' := [.int (kd0), .int (tb0), .ref (241 + t.length), .ref (241 + t2.length), .int 0, .int (-1), .int 0, .int 0, .int 0, .null]) rfl g5 rfl rfl ⟨rfl, rfl⟩ (Or.inr ⟨rfl, rfl, rfl⟩) (Nat.le_of_ble_eq_true rfl) rfl) rfl ?_
  obtain ⟨t7, e7, g6, pt7, lt7⟩ := tl_st g5 (.inr (7, [.int kd0, .int tb0, .ref (241 + t.length), .ref (241 + t2.length), .int 0, .int (-1), .int 0, .int 0, .int 0, .null]))
  rw [e7]
  refine w_r rfl rfl rfl (fun _ _ => rfl) rfl ?_
  have a2 : t2.length = t.length + 1 := by omega
  rw [a2] at g6 n3
  refine ⟨rfl, ⟨t7, ⟨⟨g6, pt7 _ _ (by omega) (pt6 _ _ (by omega) (pt5 _ _ (by omega) (pt4 _ _ (by omega) (q3 _ _ (pt2 _ _ (by omega) n1))))), pt7 _ _ (by omega) (pt6 _ _ (by omega) (pt5 _ _ (by omega) (pt4 _ _ (by omega) n3)))⟩, by omega, fun j x hj h => pt7 _ _ hj (pt6 _ _ hj (pt5 _ _ hj (pt4 _ _ hj (q3 _ _ (pt2 _ _ hj (q1 _ _ h))))))⟩, ?_⟩, by omega⟩
  with_reducible rfl
set_option maxRecDepth 100000 in
theorem m_50 {s : Nat} (hs : s < 24) : Wd L xs (d + 2) y_50 (0, [(0, .ref 106), (1, .int (nI s)), (2, .int kd0), (3, .int tb0)], [], MH C t, sl) (fun v h q => some (.ref (241 + t.length)) = v ∧ (∃ t', (RP t' t.length (t.length + 1) (t.length + 1 + 1) kd0 tb0 (fun _ => 0) (fun _ => 0) 0 (-1) 0 0 0 .null ∧ t'.length = t.length + 3 ∧ tlE t t') ∧ MH (sQ C 11 s (some (241 + t.length))) t' = h) ∧ sl + 22 = q) nX := by
  refine w_m (pc1 := 3) rfl rfl (x_nw (c := 7) (du := 10) (fs := [.int 0, .int 0, .null, .null, .int 0, .int 0, .int 0, .int 0, .int 0, .null]) rfl rfl rfl rfl rfl) rfl ?_
  obtain ⟨t1, e1, n1, q1, l1⟩ := tl_mk t (.inr (7, [.int 0, .int 0, .null, .null, .int 0, .int 0, .int 0, .int 0, .int 0, .null]))
  rw [e1]
  refine w_p (pc1 := 4) rfl rfl ?_
  refine w_p (pc1 := 5) rfl rfl ?_
  refine w_p (pc1 := 6) rfl rfl ?_
  refine w_ji (pc1 := 9) (vs := [.ref (241 + t.length), .int (kd0), .int (tb0)]) (rest := [.ref (241 + t.length)]) (m_51 (d := d) (sl := 0) n1) rfl rfl rfl (fun _ _ => rfl) rfl (by exact cl_i my_51 rfl rfl rfl (Nat.le_of_ble_eq_true rfl) rfl rfl ⟨rfl, rfl, rfl⟩ rfl) (by rfl) (Nat.le_of_ble_eq_true rfl) (Nat.le_of_ble_eq_true rfl) rfl (fun v h q hq => ?_) (fun _ _ _ e => e.elim)
  obtain ⟨rfl, ⟨t3, ⟨A, l3, p3⟩, rfl⟩, rfl⟩ := hq
  rw [l1] at A l3
  refine w_p (pc1 := 11) (al1 := [(4, .ref (241 + t.length)), (0, .ref 106), (1, .int (nI (s))), (2, .int (kd0)), (3, .int (tb0))]) rfl rfl ?_
  refine w_p (pc1 := 12) rfl rfl ?_
  refine w_f (a := 29) (b := 15) (bN_lt_f (a := s) (b := 0) (by omega) (by omega) (by omega)) rfl rfl ?_
  refine w_p (pc1 := 16) rfl rfl ?_
  refine w_p (pc1 := 18) (st1 := .int 24 :: _) rfl rfl ?_
  refine w_f (a := 29) (b := 21) (bN_ge_f (a := s) (b := 24) (by omega) (by omega) (by omega)) rfl rfl ?_
  refine w_p (pc1 := 22) rfl rfl ?_
  refine w_m0 (pc1 := 25) rfl rfl (h_gC rfl rfl rfl rfl) rfl ?_
  refine w_p (pc1 := 26) rfl rfl ?_
  refine w_p (pc1 := 28) rfl rfl ?_
  refine w_m0 (pc1 := 29) rfl rfl (x_asF (k := 11) (e := s) rfl rfl A.1 rfl (by omega) (by omega)) rfl ?_
  refine w_p (pc1 := 31) rfl rfl ?_
  refine w_r rfl rfl rfl (fun _ _ => rfl) rfl ?_
  refine ⟨rfl, ⟨t3, ⟨A, by omega, fun j x h => p3 j x (by have := get_lt h; omega) (q1 j x h)⟩, ?_⟩, by omega⟩
  with_reducible rfl
end TAB
