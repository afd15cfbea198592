
/-! ONE SIDE: questions, as the law asks them -/
section OWR
variable {L : Nat} {xs : Nat → Int32} {B : Nat → Nat} {n m : Nat} {C C' C0 C1 : co_T} {t t0 t1 : ab_H} {d sl sl0 sl1 i i0 i1 j b e ti k k0 kc ks w c : Nat} {sc : sc_T} {row : Option Nat} {tg : Option (Nat × Nat)} {nl : Option Nat} {kd0 tb0 : Int32} {P : Option Value → ab_H → Nat → Prop} {X : Nat → ab_H → Nat → Prop} {cs : List Nat} {ss : List (Option (List op_T))} {E : fe_T} {tr : Nat → Option tr_T} {x r y z : Int32} {a rl : Int64} {Q : ab_H → Prop}
set_option maxRecDepth 100000 in
theorem m_167 (w : Wd L xs d y_168 (0, [(0, .ref 100), (1, .int x)], [], MH C t, 0) (Rt (some (.int r)) (MH C t) 0) nX) : Wd L xs (d + 1) y_167 (0, [(0, .ref 100), (1, .int x), (2, .ref 240)], [], MH C t, sl) (Rt (some (.int (nI 0))) (MH (sJ C 140 0 r.toInt64) t) sl) nX := by
  refine w_p (pc1 := 1) rfl rfl ?_
  refine w_p (pc1 := 2) (st1 := .int 0 :: _) rfl rfl ?_
  refine w_p (pc1 := 3) rfl rfl ?_
  refine w_p (pc1 := 4) rfl rfl ?_
  refine w_je (pc1 := 7) (vs := [.ref 100, .int (x)]) (rest := [.int 0, .ref 240]) (st1 := [.int (r), .int 0, .ref 240]) (w) rfl rfl rfl (fun _ _ => rfl) rfl (by exact cl_v my_168 rfl rfl rfl (Nat.le_of_ble_eq_true rfl) rfl (MH_obj rfl rfl) rfl (by decide) rfl rfl) (by rfl) (Nat.le_of_ble_eq_true rfl) (Nat.le_of_ble_eq_true rfl) rfl (by rfl) ?_
  refine w_p (pc1 := 8) rfl rfl ?_
  refine w_m0 (pc1 := 9) rfl rfl (h_ls rfl rfl rfl) rfl ?_
  refine w_p (pc1 := 15) rfl rfl ?_
  refine w_p (pc1 := 16) (st1 := .int 0 :: _) rfl rfl ?_
  refine w_r rfl rfl rfl (fun _ _ => rfl) cr_int ?_
  exact ⟨rfl, rfl, rfl⟩
set_option maxRecDepth 100000 in
theorem m_167_13 (w : Wd L xs d y_168 (0, [(0, .ref 100), (1, .int x)], [], MH C t, 0) nP (Xk 13 C t 0)) : Wd L xs (d + 1) y_167 (0, [(0, .ref 100), (1, .int x), (2, .ref 240)], [], MH C t, sl) (Rt (some (.int (nI 1))) (MH C (t ++ [.inr (13, [])])) (sl + 6)) nX := by
  refine w_p (pc1 := 1) rfl rfl ?_
  refine w_p (pc1 := 2) (st1 := .int 0 :: _) rfl rfl ?_
  refine w_p (pc1 := 3) rfl rfl ?_
  refine w_p (pc1 := 4) rfl rfl ?_
  refine w_ji (pc1 := 7) (vs := [.ref 100, .int (x)]) (rest := [.int 0, .ref 240]) (w) rfl rfl rfl (fun _ _ => rfl) rfl (by exact cl_v my_168 rfl rfl rfl (Nat.le_of_ble_eq_true rfl) rfl (MH_obj rfl rfl) rfl (by decide) rfl rfl) (by rfl) (Nat.le_of_ble_eq_true rfl) (Nat.le_of_ble_eq_true rfl) rfl (fun v h1 d1 hq => ?_) (fun a h1 d1 hq => ?_)
  · exact hq.elim
  · rcases hq with ⟨ha, hh, hn⟩
    · subst ha; subst hh; subst hn
      refine Or.inr ⟨12, ch_new (by decide) rfl, ?_⟩
      refine w_p (pc1 := 13) (al1 := [(3, _), (0, .ref 100), (1, .int (x)), (2, .ref 240)]) rfl rfl ?_
      refine w_p (pc1 := 14) (st1 := .int 1 :: _) rfl rfl ?_
      refine w_r rfl rfl rfl (fun _ _ => rfl) cr_int ?_
      exact ⟨rfl, rfl, rfl⟩
set_option maxRecDepth 100000 in
theorem m_172 (w : Wd L xs d y_173 (0, [(0, .ref 100), (1, .int x), (2, .long a)], [], MH C t, 0) (Rt (some (.int r)) (MH C t) 0) nX) : Wd L xs (d + 1) y_172 (0, [(0, .ref 100), (1, .int x), (2, .long a), (4, .ref 240)], [], MH C t, sl) (Rt (some (.int (nI 0))) (MH (sJ C 140 0 r.toInt64) t) sl) nX := by
  refine w_p (pc1 := 2) rfl rfl ?_
  refine w_p (pc1 := 3) (st1 := .int 0 :: _) rfl rfl ?_
  refine w_p (pc1 := 4) rfl rfl ?_
  refine w_p (pc1 := 5) rfl rfl ?_
  refine w_p (pc1 := 6) rfl rfl ?_
  refine w_je (pc1 := 9) (vs := [.ref 100, .int (x), .long (a)]) (rest := [.int 0, .ref 240]) (st1 := [.int (r), .int 0, .ref 240]) (w) rfl rfl rfl (fun _ _ => rfl) rfl (by exact cl_v my_173 rfl rfl rfl (Nat.le_of_ble_eq_true rfl) rfl (MH_obj rfl rfl) rfl (by decide) rfl rfl) (by rfl) (Nat.le_of_ble_eq_true rfl) (Nat.le_of_ble_eq_true rfl) rfl (by rfl) ?_
  refine w_p (pc1 := 10) rfl rfl ?_
  refine w_m0 (pc1 := 11) rfl rfl (h_ls rfl rfl rfl) rfl ?_
  refine w_p (pc1 := 18) rfl rfl ?_
  refine w_p (pc1 := 19) (st1 := .int 0 :: _) rfl rfl ?_
  refine w_r rfl rfl rfl (fun _ _ => rfl) cr_int ?_
  exact ⟨rfl, rfl, rfl⟩
set_option maxRecDepth 100000 in
theorem m_172_13 (w : Wd L xs d y_173 (0, [(0, .ref 100), (1, .int x), (2, .long a)], [], MH C t, 0) nP (Xk 13 C t 0)) : Wd L xs (d + 1) y_172 (0, [(0, .ref 100), (1, .int x), (2, .long a), (4, .ref 240)], [], MH C t, sl) (Rt (some (.int (nI 1))) (MH C (t ++ [.inr (13, [])])) (sl + 6)) nX := by
  refine w_p (pc1 := 2) rfl rfl ?_
  refine w_p (pc1 := 3) (st1 := .int 0 :: _) rfl rfl ?_
  refine w_p (pc1 := 4) rfl rfl ?_
  refine w_p (pc1 := 5) rfl rfl ?_
  refine w_p (pc1 := 6) rfl rfl ?_
  refine w_ji (pc1 := 9) (vs := [.ref 100, .int (x), .long (a)]) (rest := [.int 0, .ref 240]) (w) rfl rfl rfl (fun _ _ => rfl) rfl (by exact cl_v my_173 rfl rfl rfl (Nat.le_of_ble_eq_true rfl) rfl (MH_obj rfl rfl) rfl (by decide) rfl rfl) (by rfl) (Nat.le_of_ble_eq_true rfl) (Nat.le_of_ble_eq_true rfl) rfl (fun v h1 d1 hq => ?_) (fun a h1 d1 hq => ?_)
  · exact hq.elim
  · rcases hq with ⟨ha, hh, hn⟩
    · subst ha; subst hh; subst hn
      refine Or.inr ⟨14, ch_new (by decide) rfl, ?_⟩
      refine w_p (pc1 := 16) (al1 := [(5, _), (0, .ref 100), (1, .int (x)), (2, .long (a)), (4, .ref 240)]) rfl rfl ?_
      refine w_p (pc1 := 17) (st1 := .int 1 :: _) rfl rfl ?_
      refine w_r rfl rfl rfl (fun _ _ => rfl) cr_int ?_
      exact ⟨rfl, rfl, rfl⟩
set_option maxRecDepth 100000 in
theorem m_174 (w : Wd L xs d y_175 (0, [(0, .ref 100), (1, .int x), (2, .int y)], [], MH C t, 0) (Rt (some (.long rl)) (MH C t) 0) nX) : Wd L xs (d + 1) y_174 (0, [(0, .ref 100), (1, .int x), (2, .int y), (3, .ref 240)], [], MH C t, sl) (Rt (some (.int (nI 0))) (MH (sJ C 140 0 rl) t) sl) nX := by
  refine w_p (pc1 := 1) rfl rfl ?_
  refine w_p (pc1 := 2) (st1 := .int 0 :: _) rfl rfl ?_
  refine w_p (pc1 := 3) rfl rfl ?_
  refine w_p (pc1 := 4) rfl rfl ?_
  refine w_p (pc1 := 5) rfl rfl ?_
  refine w_je (pc1 := 8) (vs := [.ref 100, .int (x), .int (y)]) (rest := [.int 0, .ref 240]) (st1 := [.long (rl), .int 0, .ref 240]) (w) rfl rfl rfl (fun _ _ => rfl) rfl (by exact cl_v my_175 rfl rfl rfl (Nat.le_of_ble_eq_true rfl) rfl (MH_obj rfl rfl) rfl (by decide) rfl rfl) (by rfl) (Nat.le_of_ble_eq_true rfl) (Nat.le_of_ble_eq_true rfl) rfl (by rfl) ?_
  refine w_m0 (pc1 := 9) rfl rfl (h_ls rfl rfl rfl) rfl ?_
  refine w_p (pc1 := 20) rfl rfl ?_
  refine w_p (pc1 := 21) (st1 := .int 0 :: _) rfl rfl ?_
  refine w_r rfl rfl rfl (fun _ _ => rfl) cr_int ?_
  exact ⟨rfl, rfl, rfl⟩
set_option maxRecDepth 100000 in
theorem m_174_14 (w : Wd L xs d y_175 (0, [(0, .ref 100), (1, .int x), (2, .int y)], [], MH C t, 0) nP (Xk 14 C t 0)) : Wd L xs (d + 1) y_174 (0, [(0, .ref 100), (1, .int x), (2, .int y), (3, .ref 240)], [], MH C t, sl) (Rt (some (.int (nI 1))) (MH C (t ++ [.inr (14, [])])) (sl + 6)) nX := by
  refine w_p (pc1 := 1) rfl rfl ?_
  refine w_p (pc1 := 2) (st1 := .int 0 :: _) rfl rfl ?_
  refine w_p (pc1 := 3) rfl rfl ?_
  refine w_p (pc1 := 4) rfl rfl ?_
  refine w_p (pc1 := 5) rfl rfl ?_
  refine w_ji (pc1 := 8) (vs := [.ref 100, .int (x), .int (y)]) (rest := [.int 0, .ref 240]) (w) rfl rfl rfl (fun _ _ => rfl) rfl (by exact cl_v my_175 rfl rfl rfl (Nat.le_of_ble_eq_true rfl) rfl (MH_obj rfl rfl) rfl (by decide) rfl rfl) (by rfl) (Nat.le_of_ble_eq_true rfl) (Nat.le_of_ble_eq_true rfl) rfl (fun v h1 d1 hq => ?_) (fun a h1 d1 hq => ?_)
  · exact hq.elim
  · rcases hq with ⟨ha, hh, hn⟩
    · subst ha; subst hh; subst hn
      refine Or.inr ⟨12, ch_new (by decide) rfl, ?_⟩
      refine w_p (pc1 := 14) (al1 := [(4, _), (0, .ref 100), (1, .int (x)), (2, .int (y)), (3, .ref 240)]) rfl rfl ?_
      refine w_p (pc1 := 15) (st1 := .int 1 :: _) rfl rfl ?_
      refine w_r rfl rfl rfl (fun _ _ => rfl) cr_int ?_
      exact ⟨rfl, rfl, rfl⟩
set_option maxRecDepth 100000 in
theorem m_174_13 (w : Wd L xs d y_175 (0, [(0, .ref 100), (1, .int x), (2, .int y)], [], MH C t, 0) nP (Xk 13 C t 0)) : Wd L xs (d + 1) y_174 (0, [(0, .ref 100), (1, .int x), (2, .int y), (3, .ref 240)], [], MH C t, sl) (Rt (some (.int (nI 2))) (MH C (t ++ [.inr (13, [])])) (sl + 6)) nX := by
  refine w_p (pc1 := 1) rfl rfl ?_
  refine w_p (pc1 := 2) (st1 := .int 0 :: _) rfl rfl ?_
  refine w_p (pc1 := 3) rfl rfl ?_
  refine w_p (pc1 := 4) rfl rfl ?_
  refine w_p (pc1 := 5) rfl rfl ?_
  refine w_ji (pc1 := 8) (vs := [.ref 100, .int (x), .int (y)]) (rest := [.int 0, .ref 240]) (w) rfl rfl rfl (fun _ _ => rfl) rfl (by exact cl_v my_175 rfl rfl rfl (Nat.le_of_ble_eq_true rfl) rfl (MH_obj rfl rfl) rfl (by decide) rfl rfl) (by rfl) (Nat.le_of_ble_eq_true rfl) (Nat.le_of_ble_eq_true rfl) rfl (fun v h1 d1 hq => ?_) (fun a h1 d1 hq => ?_)
  · exact hq.elim
  · rcases hq with ⟨ha, hh, hn⟩
    · subst ha; subst hh; subst hn
      refine Or.inr ⟨16, ch_new (by decide) rfl, ?_⟩
      refine w_p (pc1 := 18) (al1 := [(4, _), (0, .ref 100), (1, .int (x)), (2, .int (y)), (3, .ref 240)]) rfl rfl ?_
      refine w_p (pc1 := 19) (st1 := .int 2 :: _) rfl rfl ?_
      refine w_r rfl rfl rfl (fun _ _ => rfl) cr_int ?_
      exact ⟨rfl, rfl, rfl⟩
set_option maxRecDepth 100000 in
theorem m_176 (w : Wd L xs d y_177 (0, [(0, .ref 100), (1, .int x), (2, .int y), (3, .int z)], [], MH C t, 0) (Rt (some (.long rl)) (MH C t) 0) nX) : Wd L xs (d + 1) y_176 (0, [(0, .ref 100), (1, .int x), (2, .int y), (3, .int z), (4, .ref 240)], [], MH C t, sl) (Rt (some (.int (nI 0))) (MH (sJ C 140 0 rl) t) sl) nX := by
  refine w_p (pc1 := 2) rfl rfl ?_
  refine w_p (pc1 := 3) (st1 := .int 0 :: _) rfl rfl ?_
  refine w_p (pc1 := 4) rfl rfl ?_
  refine w_p (pc1 := 5) rfl rfl ?_
  refine w_p (pc1 := 6) rfl rfl ?_
  refine w_p (pc1 := 7) rfl rfl ?_
  refine w_je (pc1 := 10) (vs := [.ref 100, .int (x), .int (y), .int (z)]) (rest := [.int 0, .ref 240]) (st1 := [.long (rl), .int 0, .ref 240]) (w) rfl rfl rfl (fun _ _ => rfl) rfl (by exact cl_v my_177 rfl rfl rfl (Nat.le_of_ble_eq_true rfl) rfl (MH_obj rfl rfl) rfl (by decide) rfl rfl) (by rfl) (Nat.le_of_ble_eq_true rfl) (Nat.le_of_ble_eq_true rfl) rfl (by rfl) ?_
  refine w_m0 (pc1 := 11) rfl rfl (h_ls rfl rfl rfl) rfl ?_
  refine w_p (pc1 := 18) rfl rfl ?_
  refine w_p (pc1 := 19) (st1 := .int 0 :: _) rfl rfl ?_
  refine w_r rfl rfl rfl (fun _ _ => rfl) cr_int ?_
  exact ⟨rfl, rfl, rfl⟩
set_option maxRecDepth 100000 in
theorem m_176_14 (w : Wd L xs d y_177 (0, [(0, .ref 100), (1, .int x), (2, .int y), (3, .int z)], [], MH C t, 0) nP (Xk 14 C t 0)) : Wd L xs (d + 1) y_176 (0, [(0, .ref 100), (1, .int x), (2, .int y), (3, .int z), (4, .ref 240)], [], MH C t, sl) (Rt (some (.int (nI 1))) (MH C (t ++ [.inr (14, [])])) (sl + 6)) nX := by
  refine w_p (pc1 := 2) rfl rfl ?_
  refine w_p (pc1 := 3) (st1 := .int 0 :: _) rfl rfl ?_
  refine w_p (pc1 := 4) rfl rfl ?_
  refine w_p (pc1 := 5) rfl rfl ?_
  refine w_p (pc1 := 6) rfl rfl ?_
  refine w_p (pc1 := 7) rfl rfl ?_
  refine w_ji (pc1 := 10) (vs := [.ref 100, .int (x), .int (y), .int (z)]) (rest := [.int 0, .ref 240]) (w) rfl rfl rfl (fun _ _ => rfl) rfl (by exact cl_v my_177 rfl rfl rfl (Nat.le_of_ble_eq_true rfl) rfl (MH_obj rfl rfl) rfl (by decide) rfl rfl) (by rfl) (Nat.le_of_ble_eq_true rfl) (Nat.le_of_ble_eq_true rfl) rfl (fun v h1 d1 hq => ?_) (fun a h1 d1 hq => ?_)
  · exact hq.elim
  · rcases hq with ⟨ha, hh, hn⟩
    · subst ha; subst hh; subst hn
      refine Or.inr ⟨14, ch_new (by decide) rfl, ?_⟩
      refine w_p (pc1 := 16) (al1 := [(5, _), (0, .ref 100), (1, .int (x)), (2, .int (y)), (3, .int (z)), (4, .ref 240)]) rfl rfl ?_
      refine w_p (pc1 := 17) (st1 := .int 1 :: _) rfl rfl ?_
      refine w_r rfl rfl rfl (fun _ _ => rfl) cr_int ?_
      exact ⟨rfl, rfl, rfl⟩
set_option maxRecDepth 100000 in
theorem m_178 (w : Wd L xs d y_179 (0, [(0, .ref 100), (1, .int x), (2, .int y)], [], MH C t, 0) (Rt (some (.int r)) (MH C t) 0) nX) : Wd L xs (d + 1) y_178 (0, [(0, .ref 100), (1, .int x), (2, .int y), (3, .ref 240)], [], MH C t, sl) (Rt (some (.int (nI 0))) (MH (sJ C 140 0 r.toInt64) t) sl) nX := by
  refine w_p (pc1 := 1) rfl rfl ?_
  refine w_p (pc1 := 2) (st1 := .int 0 :: _) rfl rfl ?_
  refine w_p (pc1 := 3) rfl rfl ?_
  refine w_p (pc1 := 4) rfl rfl ?_
  refine w_p (pc1 := 5) rfl rfl ?_
  refine w_je (pc1 := 8) (vs := [.ref 100, .int (x), .int (y)]) (rest := [.int 0, .ref 240]) (st1 := [.int (r), .int 0, .ref 240]) (w) rfl rfl rfl (fun _ _ => rfl) rfl (by exact cl_v my_179 rfl rfl rfl (Nat.le_of_ble_eq_true rfl) rfl (MH_obj rfl rfl) rfl (by decide) rfl rfl) (by rfl) (Nat.le_of_ble_eq_true rfl) (Nat.le_of_ble_eq_true rfl) rfl (by rfl) ?_
  refine w_p (pc1 := 9) rfl rfl ?_
  refine w_m0 (pc1 := 10) rfl rfl (h_ls rfl rfl rfl) rfl ?_
  refine w_p (pc1 := 21) rfl rfl ?_
  refine w_p (pc1 := 22) (st1 := .int 0 :: _) rfl rfl ?_
  refine w_r rfl rfl rfl (fun _ _ => rfl) cr_int ?_
  exact ⟨rfl, rfl, rfl⟩
set_option maxRecDepth 100000 in
theorem m_178_14 (w : Wd L xs d y_179 (0, [(0, .ref 100), (1, .int x), (2, .int y)], [], MH C t, 0) nP (Xk 14 C t 0)) : Wd L xs (d + 1) y_178 (0, [(0, .ref 100), (1, .int x), (2, .int y), (3, .ref 240)], [], MH C t, sl) (Rt (some (.int (nI 1))) (MH C (t ++ [.inr (14, [])])) (sl + 6)) nX := by
  refine w_p (pc1 := 1) rfl rfl ?_
  refine w_p (pc1 := 2) (st1 := .int 0 :: _) rfl rfl ?_
  refine w_p (pc1 := 3) rfl rfl ?_
  refine w_p (pc1 := 4) rfl rfl ?_
  refine w_p (pc1 := 5) rfl rfl ?_
  refine w_ji (pc1 := 8) (vs := [.ref 100, .int (x), .int (y)]) (rest := [.int 0, .ref 240]) (w) rfl rfl rfl (fun _ _ => rfl) rfl (by exact cl_v my_179 rfl rfl rfl (Nat.le_of_ble_eq_true rfl) rfl (MH_obj rfl rfl) rfl (by decide) rfl rfl) (by rfl) (Nat.le_of_ble_eq_true rfl) (Nat.le_of_ble_eq_true rfl) rfl (fun v h1 d1 hq => ?_) (fun a h1 d1 hq => ?_)
  · exact hq.elim
  · rcases hq with ⟨ha, hh, hn⟩
    · subst ha; subst hh; subst hn
      refine Or.inr ⟨13, ch_new (by decide) rfl, ?_⟩
      refine w_p (pc1 := 15) (al1 := [(4, _), (0, .ref 100), (1, .int (x)), (2, .int (y)), (3, .ref 240)]) rfl rfl ?_
      refine w_p (pc1 := 16) (st1 := .int 1 :: _) rfl rfl ?_
      refine w_r rfl rfl rfl (fun _ _ => rfl) cr_int ?_
      exact ⟨rfl, rfl, rfl⟩
set_option maxRecDepth 100000 in
theorem m_178_13 (w : Wd L xs d y_179 (0, [(0, .ref 100), (1, .int x), (2, .int y)], [], MH C t, 0) nP (Xk 13 C t 0)) : Wd L xs (d + 1) y_178 (0, [(0, .ref 100), (1, .int x), (2, .int y), (3, .ref 240)], [], MH C t, sl) (Rt (some (.int (nI 2))) (MH C (t ++ [.inr (13, [])])) (sl + 6)) nX := by
  refine w_p (pc1 := 1) rfl rfl ?_
  refine w_p (pc1 := 2) (st1 := .int 0 :: _) rfl rfl ?_
  refine w_p (pc1 := 3) rfl rfl ?_
  refine w_p (pc1 := 4) rfl rfl ?_
  refine w_p (pc1 := 5) rfl rfl ?_
  refine w_ji (pc1 := 8) (vs := [.ref 100, .int (x), .int (y)]) (rest := [.int 0, .ref 240]) (w) rfl rfl rfl (fun _ _ => rfl) rfl (by exact cl_v my_179 rfl rfl rfl (Nat.le_of_ble_eq_true rfl) rfl (MH_obj rfl rfl) rfl (by decide) rfl rfl) (by rfl) (Nat.le_of_ble_eq_true rfl) (Nat.le_of_ble_eq_true rfl) rfl (fun v h1 d1 hq => ?_) (fun a h1 d1 hq => ?_)
  · exact hq.elim
  · rcases hq with ⟨ha, hh, hn⟩
    · subst ha; subst hh; subst hn
      refine Or.inr ⟨17, ch_new (by decide) rfl, ?_⟩
      refine w_p (pc1 := 19) (al1 := [(4, _), (0, .ref 100), (1, .int (x)), (2, .int (y)), (3, .ref 240)]) rfl rfl ?_
      refine w_p (pc1 := 20) (st1 := .int 2 :: _) rfl rfl ?_
      refine w_r rfl rfl rfl (fun _ _ => rfl) cr_int ?_
      exact ⟨rfl, rfl, rfl⟩
set_option maxRecDepth 100000 in
theorem m_181 (w : Wd L xs d y_182 (0, [(0, .ref 100), (1, .int x), (2, .int y)], [], MH C t, 0) (Rt (some (.long rl)) (MH C t) 0) nX) : Wd L xs (d + 1) y_181 (0, [(0, .ref 100), (1, .int x), (2, .int y), (3, .ref 240)], [], MH C t, sl) (Rt (some (.int (nI 0))) (MH (sJ C 140 0 rl) t) sl) nX := by
  refine w_p (pc1 := 1) rfl rfl ?_
  refine w_p (pc1 := 2) (st1 := .int 0 :: _) rfl rfl ?_
  refine w_p (pc1 := 3) rfl rfl ?_
  refine w_p (pc1 := 4) rfl rfl ?_
  refine w_p (pc1 := 5) rfl rfl ?_
  refine w_je (pc1 := 8) (vs := [.ref 100, .int (x), .int (y)]) (rest := [.int 0, .ref 240]) (st1 := [.long (rl), .int 0, .ref 240]) (w) rfl rfl rfl (fun _ _ => rfl) rfl (by exact cl_v my_182 rfl rfl rfl (Nat.le_of_ble_eq_true rfl) rfl (MH_obj rfl rfl) rfl (by decide) rfl rfl) (by rfl) (Nat.le_of_ble_eq_true rfl) (Nat.le_of_ble_eq_true rfl) rfl (by rfl) ?_
  refine w_m0 (pc1 := 9) rfl rfl (h_ls rfl rfl rfl) rfl ?_
  refine w_p (pc1 := 20) rfl rfl ?_
  refine w_p (pc1 := 21) (st1 := .int 0 :: _) rfl rfl ?_
  refine w_r rfl rfl rfl (fun _ _ => rfl) cr_int ?_
  exact ⟨rfl, rfl, rfl⟩
set_option maxRecDepth 100000 in
theorem m_181_14 (w : Wd L xs d y_182 (0, [(0, .ref 100), (1, .int x), (2, .int y)], [], MH C t, 0) nP (Xk 14 C t 0)) : Wd L xs (d + 1) y_181 (0, [(0, .ref 100), (1, .int x), (2, .int y), (3, .ref 240)], [], MH C t, sl) (Rt (some (.int (nI 1))) (MH C (t ++ [.inr (14, [])])) (sl + 6)) nX := by
  refine w_p (pc1 := 1) rfl rfl ?_
  refine w_p (pc1 := 2) (st1 := .int 0 :: _) rfl rfl ?_
  refine w_p (pc1 := 3) rfl rfl ?_
  refine w_p (pc1 := 4) rfl rfl ?_
  refine w_p (pc1 := 5) rfl rfl ?_
  refine w_ji (pc1 := 8) (vs := [.ref 100, .int (x), .int (y)]) (rest := [.int 0, .ref 240]) (w) rfl rfl rfl (fun _ _ => rfl) rfl (by exact cl_v my_182 rfl rfl rfl (Nat.le_of_ble_eq_true rfl) rfl (MH_obj rfl rfl) rfl (by decide) rfl rfl) (by rfl) (Nat.le_of_ble_eq_true rfl) (Nat.le_of_ble_eq_true rfl) rfl (fun v h1 d1 hq => ?_) (fun a h1 d1 hq => ?_)
  · exact hq.elim
  · rcases hq with ⟨ha, hh, hn⟩
    · subst ha; subst hh; subst hn
      refine Or.inr ⟨12, ch_new (by decide) rfl, ?_⟩
      refine w_p (pc1 := 14) (al1 := [(4, _), (0, .ref 100), (1, .int (x)), (2, .int (y)), (3, .ref 240)]) rfl rfl ?_
      refine w_p (pc1 := 15) (st1 := .int 1 :: _) rfl rfl ?_
      refine w_r rfl rfl rfl (fun _ _ => rfl) cr_int ?_
      exact ⟨rfl, rfl, rfl⟩
set_option maxRecDepth 100000 in
theorem m_181_13 (w : Wd L xs d y_182 (0, [(0, .ref 100), (1, .int x), (2, .int y)], [], MH C t, 0) nP (Xk 13 C t 0)) : Wd L xs (d + 1) y_181 (0, [(0, .ref 100), (1, .int x), (2, .int y), (3, .ref 240)], [], MH C t, sl) (Rt (some (.int (nI 2))) (MH C (t ++ [.inr (13, [])])) (sl + 6)) nX := by
  refine w_p (pc1 := 1) rfl rfl ?_
  refine w_p (pc1 := 2) (st1 := .int 0 :: _) rfl rfl ?_
  refine w_p (pc1 := 3) rfl rfl ?_
  refine w_p (pc1 := 4) rfl rfl ?_
  refine w_p (pc1 := 5) rfl rfl ?_
  refine w_ji (pc1 := 8) (vs := [.ref 100, .int (x), .int (y)]) (rest := [.int 0, .ref 240]) (w) rfl rfl rfl (fun _ _ => rfl) rfl (by exact cl_v my_182 rfl rfl rfl (Nat.le_of_ble_eq_true rfl) rfl (MH_obj rfl rfl) rfl (by decide) rfl rfl) (by rfl) (Nat.le_of_ble_eq_true rfl) (Nat.le_of_ble_eq_true rfl) rfl (fun v h1 d1 hq => ?_) (fun a h1 d1 hq => ?_)
  · exact hq.elim
  · rcases hq with ⟨ha, hh, hn⟩
    · subst ha; subst hh; subst hn
      refine Or.inr ⟨16, ch_new (by decide) rfl, ?_⟩
      refine w_p (pc1 := 18) (al1 := [(4, _), (0, .ref 100), (1, .int (x)), (2, .int (y)), (3, .ref 240)]) rfl rfl ?_
      refine w_p (pc1 := 19) (st1 := .int 2 :: _) rfl rfl ?_
      refine w_r rfl rfl rfl (fun _ _ => rfl) cr_int ?_
      exact ⟨rfl, rfl, rfl⟩
set_option maxRecDepth 100000 in
theorem m_183 (w : Wd L xs d y_184 (0, [(0, .ref 100), (1, .int x)], [], MH C t, 0) (fun v h q => some (.int r) = v ∧ (∃ t', Q t' ∧ MH C t' = h) ∧ 0 = q) nX) : Wd L xs (d + 1) y_183 (0, [(0, .ref 100), (1, .int x), (2, .ref 240)], [], MH C t, sl) (fun v h q => some (.int (nI 0)) = v ∧ (∃ t', Q t' ∧ MH (sJ C 140 0 r.toInt64) t' = h) ∧ sl = q) nX := by
  refine w_p (pc1 := 1) rfl rfl ?_
  refine w_p (pc1 := 2) (st1 := .int 0 :: _) rfl rfl ?_
  refine w_p (pc1 := 3) rfl rfl ?_
  refine w_p (pc1 := 4) rfl rfl ?_
  refine w_ji (pc1 := 7) (vs := [.ref 100, .int (x)]) (rest := [.int 0, .ref 240]) (w) rfl rfl rfl (fun _ _ => rfl) rfl (by exact cl_v my_184 rfl rfl rfl (Nat.le_of_ble_eq_true rfl) rfl (MH_obj rfl rfl) rfl (by decide) rfl rfl) (by rfl) (Nat.le_of_ble_eq_true rfl) (Nat.le_of_ble_eq_true rfl) rfl (fun v h q hq => ?_) (fun _ _ _ e => e.elim)
  obtain ⟨rfl, ⟨t1, hQ, rfl⟩, rfl⟩ := hq
  refine w_p (pc1 := 8) rfl rfl ?_
  refine w_m0 (pc1 := 9) rfl rfl (h_ls rfl rfl rfl) rfl ?_
  refine w_p (pc1 := 15) rfl rfl ?_
  refine w_p (pc1 := 16) (st1 := .int 0 :: _) rfl rfl ?_
  refine w_r rfl rfl rfl (fun _ _ => rfl) cr_int ?_
  exact ⟨rfl, ⟨t1, hQ, rfl⟩, rfl⟩
set_option maxRecDepth 100000 in
theorem m_183_14 (w : Wd L xs d y_184 (0, [(0, .ref 100), (1, .int x)], [], MH C t, 0) nP (Xk 14 C t 0)) : Wd L xs (d + 1) y_183 (0, [(0, .ref 100), (1, .int x), (2, .ref 240)], [], MH C t, sl) (Rt (some (.int (nI 1))) (MH C (t ++ [.inr (14, [])])) (sl + 6)) nX := by
  refine w_p (pc1 := 1) rfl rfl ?_
  refine w_p (pc1 := 2) (st1 := .int 0 :: _) rfl rfl ?_
  refine w_p (pc1 := 3) rfl rfl ?_
  refine w_p (pc1 := 4) rfl rfl ?_
  refine w_ji (pc1 := 7) (vs := [.ref 100, .int (x)]) (rest := [.int 0, .ref 240]) (w) rfl rfl rfl (fun _ _ => rfl) rfl (by exact cl_v my_184 rfl rfl rfl (Nat.le_of_ble_eq_true rfl) rfl (MH_obj rfl rfl) rfl (by decide) rfl rfl) (by rfl) (Nat.le_of_ble_eq_true rfl) (Nat.le_of_ble_eq_true rfl) rfl (fun v h1 d1 hq => ?_) (fun a h1 d1 hq => ?_)
  · exact hq.elim
  · rcases hq with ⟨ha, hh, hn⟩
    · subst ha; subst hh; subst hn
      refine Or.inr ⟨12, ch_new (by decide) rfl, ?_⟩
      refine w_p (pc1 := 13) (al1 := [(3, _), (0, .ref 100), (1, .int (x)), (2, .ref 240)]) rfl rfl ?_
      refine w_p (pc1 := 14) (st1 := .int 1 :: _) rfl rfl ?_
      refine w_r rfl rfl rfl (fun _ _ => rfl) cr_int ?_
      exact ⟨rfl, rfl, rfl⟩
end OWR
