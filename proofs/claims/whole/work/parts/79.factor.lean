/-! FORMULAS, 4: a factor that is a leaf -/
section FAC
variable {L : Nat} {xs : Nat → Int32} {t : ab_H} {d n m : Nat} {B : Nat → Nat} {C0 C : co_T} {s z : fs_T} {c : Int32} {i : Nat}
set_option maxRecDepth 100000 in
theorem kne {k : Nat} (h : kd B n i = k) (h1 : k ≠ 1) (h2 : k ≠ 2) : kd B n i ≠ 1 ∧ kd B n i ≠ 2 := by
  rw [h]
  exact ⟨h1, h2⟩
set_option maxRecDepth 100000 in
theorem fn_ok (F : FK B n m C0 C s) (hk : kd B n s.1 = 4) (h : lef s 0 (vl B n s.1).toInt32 = .inr z) : Wd L xs (d + 12) y_64 (0, [(0, .ref 121)], [], MH C t, 0) (PFK B n m C0 t 0 z) nX := by
  refine w_p (pc1 := 1) (st1 := .int 0 :: _) rfl rfl ?_
  refine w_p (pc1 := 2) (al1 := [(2, .int 0), (0, .ref 121)]) rfl rfl ?_
  refine w_m0 (pc1 := 5) (st1 := .ref 61 :: _) rfl rfl rfl rfl ?_
  refine w_p (pc1 := 6) rfl rfl ?_
  refine w_m0 (pc1 := 9) rfl rfl (h_gC rfl rfl rfl rfl) rfl ?_
  refine w_m0 (pc1 := 12) (st1 := .ref 4 :: _) rfl rfl (h_gRs (j := 6) rfl rfl rfl rfl rfl (by rw [tkS_tok F.1, hk])) rfl ?_
  refine w_c (pc1 := 15) rfl rfl rfl (fun fr lo h1 h2 => n_or rfl (by decide) (by decide) h1 h2) rfl ?_
  refine w_m0 (pc1 := 16) rfl rfl (rfl) rfl ?_
  refine w_p (pc1 := 52) rfl rfl ?_
  refine w_p (pc1 := 53) (st1 := .int 0 :: _) rfl rfl ?_
  refine w_p (pc1 := 54) (al1 := [(1, .int 0), (2, .int 0), (0, .ref 121)]) rfl rfl ?_
  refine w_p (pc1 := 55) rfl rfl ?_
  refine w_m0 (pc1 := 58) rfl rfl (h_gC rfl rfl rfl rfl) rfl ?_
  refine w_m0 (pc1 := 61) (st1 := .long (vl B n s.1) :: _) rfl rfl (h_gJe (j := 8) rfl rfl rfl rfl rfl (tkS_v F.1)) rfl ?_
  refine w_p (pc1 := 62) rfl rfl ?_
  refine w_p (pc1 := 63) (al1 := [(2, _), (1, .int 0), (0, .ref 121)]) rfl rfl ?_
  refine w_p (pc1 := 152) rfl rfl ?_
  exact lf_ok1 (d := d + 11) F (kne hk (by decide) (by decide)).1 (kne hk (by decide) (by decide)).2 h
set_option maxRecDepth 100000 in
theorem fn_er (F : FK B n m C0 C s) (hk : kd B n s.1 = 4) (h : lef s 0 (vl B n s.1).toInt32 = .inl (c, i)) : Wd L xs (d + 12) y_64 (0, [(0, .ref 121)], [], MH C t, 0) nP (XFK B n m C0 t 0 c i) := by
  refine w_p (pc1 := 1) (st1 := .int 0 :: _) rfl rfl ?_
  refine w_p (pc1 := 2) (al1 := [(2, .int 0), (0, .ref 121)]) rfl rfl ?_
  refine w_m0 (pc1 := 5) (st1 := .ref 61 :: _) rfl rfl rfl rfl ?_
  refine w_p (pc1 := 6) rfl rfl ?_
  refine w_m0 (pc1 := 9) rfl rfl (h_gC rfl rfl rfl rfl) rfl ?_
  refine w_m0 (pc1 := 12) (st1 := .ref 4 :: _) rfl rfl (h_gRs (j := 6) rfl rfl rfl rfl rfl (by rw [tkS_tok F.1, hk])) rfl ?_
  refine w_c (pc1 := 15) rfl rfl rfl (fun fr lo h1 h2 => n_or rfl (by decide) (by decide) h1 h2) rfl ?_
  refine w_m0 (pc1 := 16) rfl rfl (rfl) rfl ?_
  refine w_p (pc1 := 52) rfl rfl ?_
  refine w_p (pc1 := 53) (st1 := .int 0 :: _) rfl rfl ?_
  refine w_p (pc1 := 54) (al1 := [(1, .int 0), (2, .int 0), (0, .ref 121)]) rfl rfl ?_
  refine w_p (pc1 := 55) rfl rfl ?_
  refine w_m0 (pc1 := 58) rfl rfl (h_gC rfl rfl rfl rfl) rfl ?_
  refine w_m0 (pc1 := 61) (st1 := .long (vl B n s.1) :: _) rfl rfl (h_gJe (j := 8) rfl rfl rfl rfl rfl (tkS_v F.1)) rfl ?_
  refine w_p (pc1 := 62) rfl rfl ?_
  refine w_p (pc1 := 63) (al1 := [(2, _), (1, .int 0), (0, .ref 121)]) rfl rfl ?_
  refine w_p (pc1 := 152) rfl rfl ?_
  exact lf_er1 (d := d + 4) F h
set_option maxRecDepth 100000 in
theorem fu_ok (F : FK B n m C0 C s) (hk : kd B n s.1 = 27) (h : lef s 1 0 = .inr z) : Wd L xs (d + 12) y_64 (0, [(0, .ref 121)], [], MH C t, 0) (PFK B n m C0 t 0 z) nX := by
  refine w_p (pc1 := 1) (st1 := .int 0 :: _) rfl rfl ?_
  refine w_p (pc1 := 2) (al1 := [(2, .int 0), (0, .ref 121)]) rfl rfl ?_
  refine w_m0 (pc1 := 5) (st1 := .ref 61 :: _) rfl rfl rfl rfl ?_
  refine w_p (pc1 := 6) rfl rfl ?_
  refine w_m0 (pc1 := 9) rfl rfl (h_gC rfl rfl rfl rfl) rfl ?_
  refine w_m0 (pc1 := 12) (st1 := .ref 27 :: _) rfl rfl (h_gRs (j := 6) rfl rfl rfl rfl rfl (by rw [tkS_tok F.1, hk])) rfl ?_
  refine w_c (pc1 := 15) rfl rfl rfl (fun fr lo h1 h2 => n_or rfl (by decide) (by decide) h1 h2) rfl ?_
  refine w_m0 (pc1 := 16) rfl rfl (rfl) rfl ?_
  refine w_p (pc1 := 66) rfl rfl ?_
  refine w_p (pc1 := 67) (st1 := .int 1 :: _) rfl rfl ?_
  refine w_p (pc1 := 68) (al1 := [(1, .int 1), (2, .int 0), (0, .ref 121)]) rfl rfl ?_
  refine w_p (pc1 := 152) rfl rfl ?_
  exact lf_ok2 (d := d + 11) F (kne hk (by decide) (by decide)).1 (kne hk (by decide) (by decide)).2 h
set_option maxRecDepth 100000 in
theorem fu_er (F : FK B n m C0 C s) (hk : kd B n s.1 = 27) (h : lef s 1 0 = .inl (c, i)) : Wd L xs (d + 12) y_64 (0, [(0, .ref 121)], [], MH C t, 0) nP (XFK B n m C0 t 0 c i) := by
  refine w_p (pc1 := 1) (st1 := .int 0 :: _) rfl rfl ?_
  refine w_p (pc1 := 2) (al1 := [(2, .int 0), (0, .ref 121)]) rfl rfl ?_
  refine w_m0 (pc1 := 5) (st1 := .ref 61 :: _) rfl rfl rfl rfl ?_
  refine w_p (pc1 := 6) rfl rfl ?_
  refine w_m0 (pc1 := 9) rfl rfl (h_gC rfl rfl rfl rfl) rfl ?_
  refine w_m0 (pc1 := 12) (st1 := .ref 27 :: _) rfl rfl (h_gRs (j := 6) rfl rfl rfl rfl rfl (by rw [tkS_tok F.1, hk])) rfl ?_
  refine w_c (pc1 := 15) rfl rfl rfl (fun fr lo h1 h2 => n_or rfl (by decide) (by decide) h1 h2) rfl ?_
  refine w_m0 (pc1 := 16) rfl rfl (rfl) rfl ?_
  refine w_p (pc1 := 66) rfl rfl ?_
  refine w_p (pc1 := 67) (st1 := .int 1 :: _) rfl rfl ?_
  refine w_p (pc1 := 68) (al1 := [(1, .int 1), (2, .int 0), (0, .ref 121)]) rfl rfl ?_
  refine w_p (pc1 := 152) rfl rfl ?_
  exact lf_er2 (d := d + 4) F h
set_option maxRecDepth 100000 in
theorem fr_col {b w : Nat} {v : Int64} (F : FK B n m C0 C s) : fnd (fun j => decide (C.2.1 9 (b * 6 + j) = v)) w 0 = fnd (fun j => decide (C0.2.1 9 (b * 6 + j) = v)) w 0 := by
  have h := F.2.2.2.2.2.2.2.2.1
  congr 1
  funext j
  rw [h 9 (b * 6 + j) (by omega)]
set_option maxRecDepth 100000 in
theorem fr_w {b w : Nat} (F : FK B n m C0 C s) (h : C0.1 8 b = nI w) : C.1 8 b = nI w := by
  rw [F.2.2.2.2.2.2.2.1 8 b (by decide) (by decide) (by omega) (by omega)]
  exact h
set_option maxRecDepth 100000 in
theorem fr_f {j : Nat} (F : FK B n m C0 C s) (h : j = 7 ∨ j = 8 ∨ j = 9) : C.1 21 j = C0.1 21 j := F.2.2.2.2.2.2.2.1 21 j (by decide) (by decide) (by omega) (by omega)
set_option maxRecDepth 100000 in
theorem fm_no (F : FK B n m C0 C s) (hk : kd B n s.1 = 3) (hx : C0.1 21 7 = -1) (hc : c = 7) (hi : i = s.1) : Wd L xs (d + 12) y_64 (0, [(0, .ref 121)], [], MH C t, 0) nP (XFK B n m C0 t 0 c i) := by
  subst hc
  subst hi
  refine w_p (pc1 := 1) (st1 := .int 0 :: _) rfl rfl ?_
  refine w_p (pc1 := 2) (al1 := [(2, .int 0), (0, .ref 121)]) rfl rfl ?_
  refine w_m0 (pc1 := 5) (st1 := .ref 61 :: _) rfl rfl rfl rfl ?_
  refine w_p (pc1 := 6) rfl rfl ?_
  refine w_m0 (pc1 := 9) rfl rfl (h_gC rfl rfl rfl rfl) rfl ?_
  refine w_m0 (pc1 := 12) (st1 := .ref 3 :: _) rfl rfl (h_gRs (j := 6) rfl rfl rfl rfl rfl (by rw [tkS_tok F.1, hk])) rfl ?_
  refine w_c (pc1 := 15) rfl rfl rfl (fun fr lo h1 h2 => n_or rfl (by decide) (by decide) h1 h2) rfl ?_
  refine w_m0 (pc1 := 16) rfl rfl (rfl) rfl ?_
  refine w_p (pc1 := 71) rfl rfl ?_
  refine w_p (pc1 := 72) (st1 := .int 2 :: _) rfl rfl ?_
  refine w_p (pc1 := 73) (al1 := [(1, .int 2), (2, .int 0), (0, .ref 121)]) rfl rfl ?_
  refine w_p (pc1 := 74) rfl rfl ?_
  refine w_p (pc1 := 75) rfl rfl ?_
  refine w_m0 (pc1 := 78) (st1 := .int (-1) :: _) rfl rfl (h_gIe (j := 7) rfl rfl rfl rfl rfl (by rw [fr_f F (by omega)]; exact hx)) rfl ?_
  refine w_ji (pc1 := 81) (vs := [.ref 121, .int (-1)]) (rest := []) (m_65r (d := d + 4) (sl := 0) F.1 hk) rfl rfl rfl (fun _ _ => rfl) rfl (by exact cl_v my_65 rfl rfl rfl (Nat.le_of_ble_eq_true rfl) rfl (MH_obj rfl rfl) rfl (by decide) rfl rfl) (by rfl) (Nat.le_of_ble_eq_true rfl) (Nat.le_of_ble_eq_true rfl) rfl (fun v h1 d1 hq => ?_) (fun a h1 d1 hq => ?_)
  · exact hq.elim
  · rcases hq with ⟨ha, hh, hn⟩
    · subst ha; subst hh; subst hn
      refine Or.inl ⟨ch_new (by decide) rfl, ?_⟩
      exact X_up F.2.2.2.2.2.2.2 F.1 ⟨rfl, rfl, rfl⟩
set_option maxRecDepth 100000 in
theorem fm_un (F : FK B n m C0 C s) {b w : Nat} (hb : b < 6) (hw : w ≤ 6) (hx : C0.1 21 7 = nI b) (h8 : C0.1 8 b = nI w) (hk : kd B n s.1 = 3) (hg : fnd (fun j => decide (C0.2.1 9 (b * 6 + j) = vl B n s.1)) w 0 = -1) (hc : c = 4) (hi : i = s.1) : Wd L xs (d + 12) y_64 (0, [(0, .ref 121)], [], MH C t, 0) nP (XFK B n m C0 t 0 c i) := by
  subst hc
  subst hi
  refine w_p (pc1 := 1) (st1 := .int 0 :: _) rfl rfl ?_
  refine w_p (pc1 := 2) (al1 := [(2, .int 0), (0, .ref 121)]) rfl rfl ?_
  refine w_m0 (pc1 := 5) (st1 := .ref 61 :: _) rfl rfl rfl rfl ?_
  refine w_p (pc1 := 6) rfl rfl ?_
  refine w_m0 (pc1 := 9) rfl rfl (h_gC rfl rfl rfl rfl) rfl ?_
  refine w_m0 (pc1 := 12) (st1 := .ref 3 :: _) rfl rfl (h_gRs (j := 6) rfl rfl rfl rfl rfl (by rw [tkS_tok F.1, hk])) rfl ?_
  refine w_c (pc1 := 15) rfl rfl rfl (fun fr lo h1 h2 => n_or rfl (by decide) (by decide) h1 h2) rfl ?_
  refine w_m0 (pc1 := 16) rfl rfl (rfl) rfl ?_
  refine w_p (pc1 := 71) rfl rfl ?_
  refine w_p (pc1 := 72) (st1 := .int 2 :: _) rfl rfl ?_
  refine w_p (pc1 := 73) (al1 := [(1, .int 2), (2, .int 0), (0, .ref 121)]) rfl rfl ?_
  refine w_p (pc1 := 74) rfl rfl ?_
  refine w_p (pc1 := 75) rfl rfl ?_
  refine w_m0 (pc1 := 78) (st1 := .int (nI (b)) :: _) rfl rfl (h_gIe (j := 7) rfl rfl rfl rfl rfl (by rw [fr_f F (by omega)]; exact hx)) rfl ?_
  refine w_ji (pc1 := 81) (vs := [.ref 121, .int (nI (b))]) (rest := []) (m_65c (d := d + 4) (sl := 0) F.1 hb (fr_w F h8) hw hk (by rw [fr_col F]; exact hg)) rfl rfl rfl (fun _ _ => rfl) rfl (by exact cl_v my_65 rfl rfl rfl (Nat.le_of_ble_eq_true rfl) rfl (MH_obj rfl rfl) rfl (by decide) rfl rfl) (by rfl) (Nat.le_of_ble_eq_true rfl) (Nat.le_of_ble_eq_true rfl) rfl (fun v h1 d1 hq => ?_) (fun a h1 d1 hq => ?_)
  · exact hq.elim
  · rcases hq with ⟨ha, hh, hn⟩
    · subst ha; subst hh; subst hn
      refine Or.inl ⟨ch_new (by decide) rfl, ?_⟩
      exact X_up F.2.2.2.2.2.2.2 F.1 ⟨rfl, rfl, rfl⟩
set_option maxRecDepth 100000 in
theorem fm_ok (F : FK B n m C0 C s) {b w : Nat} (hb : b < 6) (hw : w ≤ 6) (hx : C0.1 21 7 = nI b) (h8 : C0.1 8 b = nI w) (hk : kd B n s.1 = 3) (hg : fnd (fun j => decide (C0.2.1 9 (b * 6 + j) = vl B n s.1)) w 0 ≠ -1) (h : lef s 2 (fnd (fun j => decide (C0.2.1 9 (b * 6 + j) = vl B n s.1)) w 0) = .inr z) : Wd L xs (d + 12) y_64 (0, [(0, .ref 121)], [], MH C t, 0) (PFK B n m C0 t 0 z) nX := by
  rw [← fr_col F] at hg h
  refine w_p (pc1 := 1) (st1 := .int 0 :: _) rfl rfl ?_
  refine w_p (pc1 := 2) (al1 := [(2, .int 0), (0, .ref 121)]) rfl rfl ?_
  refine w_m0 (pc1 := 5) (st1 := .ref 61 :: _) rfl rfl rfl rfl ?_
  refine w_p (pc1 := 6) rfl rfl ?_
  refine w_m0 (pc1 := 9) rfl rfl (h_gC rfl rfl rfl rfl) rfl ?_
  refine w_m0 (pc1 := 12) (st1 := .ref 3 :: _) rfl rfl (h_gRs (j := 6) rfl rfl rfl rfl rfl (by rw [tkS_tok F.1, hk])) rfl ?_
  refine w_c (pc1 := 15) rfl rfl rfl (fun fr lo h1 h2 => n_or rfl (by decide) (by decide) h1 h2) rfl ?_
  refine w_m0 (pc1 := 16) rfl rfl (rfl) rfl ?_
  refine w_p (pc1 := 71) rfl rfl ?_
  refine w_p (pc1 := 72) (st1 := .int 2 :: _) rfl rfl ?_
  refine w_p (pc1 := 73) (al1 := [(1, .int 2), (2, .int 0), (0, .ref 121)]) rfl rfl ?_
  refine w_p (pc1 := 74) rfl rfl ?_
  refine w_p (pc1 := 75) rfl rfl ?_
  refine w_m0 (pc1 := 78) (st1 := .int (nI (b)) :: _) rfl rfl (h_gIe (j := 7) rfl rfl rfl rfl rfl (by rw [fr_f F (by omega)]; exact hx)) rfl ?_
  refine w_je (pc1 := 81) (vs := [.ref 121, .int (nI (b))]) (rest := []) (st1 := [.int (fnd (fun j => decide (C.2.1 9 (b * 6 + j) = vl B n s.1)) w 0)]) (m_65y (d := _) (sl := 0) F.1 hb (fr_w F h8) hw hk hg) rfl rfl rfl (fun _ _ => rfl) rfl (by exact cl_v my_65 rfl rfl rfl (Nat.le_of_ble_eq_true rfl) rfl (MH_obj rfl rfl) rfl (by decide) rfl rfl) (by rfl) (Nat.le_of_ble_eq_true rfl) (Nat.le_of_ble_eq_true rfl) rfl (by rfl) ?_
  refine w_p (pc1 := 82) (al1 := [(2, .int (fnd (fun j => decide (C.2.1 9 (b * 6 + j) = vl B n s.1)) w 0)), (1, .int 2), (0, .ref 121)]) rfl rfl ?_
  refine w_p (pc1 := 152) rfl rfl ?_
  exact lf_ok1 (d := d + 11) F (kne hk (by decide) (by decide)).1 (kne hk (by decide) (by decide)).2 h
set_option maxRecDepth 100000 in
theorem fm_er (F : FK B n m C0 C s) {b w : Nat} (hb : b < 6) (hw : w ≤ 6) (hx : C0.1 21 7 = nI b) (h8 : C0.1 8 b = nI w) (hk : kd B n s.1 = 3) (hg : fnd (fun j => decide (C0.2.1 9 (b * 6 + j) = vl B n s.1)) w 0 ≠ -1) (h : lef s 2 (fnd (fun j => decide (C0.2.1 9 (b * 6 + j) = vl B n s.1)) w 0) = .inl (c, i)) : Wd L xs (d + 12) y_64 (0, [(0, .ref 121)], [], MH C t, 0) nP (XFK B n m C0 t 0 c i) := by
  rw [← fr_col F] at hg h
  refine w_p (pc1 := 1) (st1 := .int 0 :: _) rfl rfl ?_
  refine w_p (pc1 := 2) (al1 := [(2, .int 0), (0, .ref 121)]) rfl rfl ?_
  refine w_m0 (pc1 := 5) (st1 := .ref 61 :: _) rfl rfl rfl rfl ?_
  refine w_p (pc1 := 6) rfl rfl ?_
  refine w_m0 (pc1 := 9) rfl rfl (h_gC rfl rfl rfl rfl) rfl ?_
  refine w_m0 (pc1 := 12) (st1 := .ref 3 :: _) rfl rfl (h_gRs (j := 6) rfl rfl rfl rfl rfl (by rw [tkS_tok F.1, hk])) rfl ?_
  refine w_c (pc1 := 15) rfl rfl rfl (fun fr lo h1 h2 => n_or rfl (by decide) (by decide) h1 h2) rfl ?_
  refine w_m0 (pc1 := 16) rfl rfl (rfl) rfl ?_
  refine w_p (pc1 := 71) rfl rfl ?_
  refine w_p (pc1 := 72) (st1 := .int 2 :: _) rfl rfl ?_
  refine w_p (pc1 := 73) (al1 := [(1, .int 2), (2, .int 0), (0, .ref 121)]) rfl rfl ?_
  refine w_p (pc1 := 74) rfl rfl ?_
  refine w_p (pc1 := 75) rfl rfl ?_
  refine w_m0 (pc1 := 78) (st1 := .int (nI (b)) :: _) rfl rfl (h_gIe (j := 7) rfl rfl rfl rfl rfl (by rw [fr_f F (by omega)]; exact hx)) rfl ?_
  refine w_je (pc1 := 81) (vs := [.ref 121, .int (nI (b))]) (rest := []) (st1 := [.int (fnd (fun j => decide (C.2.1 9 (b * 6 + j) = vl B n s.1)) w 0)]) (m_65y (d := _) (sl := 0) F.1 hb (fr_w F h8) hw hk hg) rfl rfl rfl (fun _ _ => rfl) rfl (by exact cl_v my_65 rfl rfl rfl (Nat.le_of_ble_eq_true rfl) rfl (MH_obj rfl rfl) rfl (by decide) rfl rfl) (by rfl) (Nat.le_of_ble_eq_true rfl) (Nat.le_of_ble_eq_true rfl) rfl (by rfl) ?_
  refine w_p (pc1 := 82) (al1 := [(2, .int (fnd (fun j => decide (C.2.1 9 (b * 6 + j) = vl B n s.1)) w 0)), (1, .int 2), (0, .ref 121)]) rfl rfl ?_
  refine w_p (pc1 := 152) rfl rfl ?_
  exact lf_er1 (d := d + 4) F h
set_option maxRecDepth 100000 in
theorem fw_no (F : FK B n m C0 C s) (hk : kd B n s.1 = 24) (hx : C0.1 21 8 = -1 ∨ C0.1 21 9 = 2) (hc : c = 7) (hi : i = s.1) : Wd L xs (d + 12) y_64 (0, [(0, .ref 121)], [], MH C t, 0) nP (XFK B n m C0 t 0 c i) := by
  subst hc
  subst hi
  refine w_p (pc1 := 1) (st1 := .int 0 :: _) rfl rfl ?_
  refine w_p (pc1 := 2) (al1 := [(2, .int 0), (0, .ref 121)]) rfl rfl ?_
  refine w_m0 (pc1 := 5) (st1 := .ref 61 :: _) rfl rfl rfl rfl ?_
  refine w_p (pc1 := 6) rfl rfl ?_
  refine w_m0 (pc1 := 9) rfl rfl (h_gC rfl rfl rfl rfl) rfl ?_
  refine w_m0 (pc1 := 12) (st1 := .ref 24 :: _) rfl rfl (h_gRs (j := 6) rfl rfl rfl rfl rfl (by rw [tkS_tok F.1, hk])) rfl ?_
  refine w_c (pc1 := 15) rfl rfl rfl (fun fr lo h1 h2 => n_or rfl (by decide) (by decide) h1 h2) rfl ?_
  refine w_m0 (pc1 := 16) rfl rfl (rfl) rfl ?_
  refine w_p (pc1 := 85) rfl rfl ?_
  refine w_p (pc1 := 86) rfl rfl ?_
  refine w_m0 (pc1 := 89) rfl rfl (h_gC rfl rfl rfl rfl) rfl ?_
  refine w_m0 (pc1 := 92) (st1 := .ref 24 :: _) rfl rfl (h_gRs (j := 6) rfl rfl rfl rfl rfl (by rw [tkS_tok F.1, hk])) rfl ?_
  refine w_m0 (pc1 := 95) (st1 := .ref 24 :: _) rfl rfl rfl rfl ?_
  refine w_f (a := 102) (b := 98) rfl rfl rfl ?_
  refine w_p (pc1 := 99) (st1 := .int 3 :: _) rfl rfl ?_
  refine w_p (pc1 := 103) rfl rfl ?_
  refine w_p (pc1 := 104) (al1 := [(1, .int 3), (2, .int 0), (0, .ref 121)]) rfl rfl ?_
  refine w_p (pc1 := 105) rfl rfl ?_
  refine w_p (pc1 := 106) rfl rfl ?_
  refine w_p (pc1 := 107) (st1 := .int 3 :: _) rfl rfl ?_
  refine w_f (a := 114) (b := 110) rfl rfl rfl ?_
  refine w_p (pc1 := 111) (st1 := .int 2 :: _) rfl rfl ?_
  refine w_p (pc1 := 115) rfl rfl ?_
  refine w_ji (pc1 := 118) (vs := [.ref 121, .int 2]) (rest := []) (m_66n (d := d + 4) (sl := 0) F.1 (by rw [fr_f F (by omega), fr_f F (by omega)]; exact hx)) rfl rfl rfl (fun _ _ => rfl) rfl (by exact cl_v my_66 rfl rfl rfl (Nat.le_of_ble_eq_true rfl) rfl (MH_obj rfl rfl) rfl (by decide) rfl rfl) (by rfl) (Nat.le_of_ble_eq_true rfl) (Nat.le_of_ble_eq_true rfl) rfl (fun v h1 d1 hq => ?_) (fun a h1 d1 hq => ?_)
  · exact hq.elim
  · rcases hq with ⟨ha, hh, hn⟩
    · subst ha; subst hh; subst hn
      refine Or.inl ⟨ch_new (by decide) rfl, ?_⟩
      exact X_up F.2.2.2.2.2.2.2 F.1 ⟨rfl, rfl, rfl⟩
set_option maxRecDepth 100000 in
theorem fw_nd (F : FK B n m C0 C s) (hk : kd B n s.1 = 24) (hx : C0.1 21 8 ≠ -1) (hv : C0.1 21 9 ≠ 2) (hd : kd B n (s.1 + 1) ≠ 49) (hc : c = 2) (hi : i = s.1 + 1) : Wd L xs (d + 12) y_64 (0, [(0, .ref 121)], [], MH C t, 0) nP (XFK B n m C0 t 0 c i) := by
  subst hc
  subst hi
  have hk1 := (kne hk (by decide) (by decide)).1
  have hk2 := (kne hk (by decide) (by decide)).2
  have F1 := FK_n F hk1 hk2
  refine w_p (pc1 := 1) (st1 := .int 0 :: _) rfl rfl ?_
  refine w_p (pc1 := 2) (al1 := [(2, .int 0), (0, .ref 121)]) rfl rfl ?_
  refine w_m0 (pc1 := 5) (st1 := .ref 61 :: _) rfl rfl rfl rfl ?_
  refine w_p (pc1 := 6) rfl rfl ?_
  refine w_m0 (pc1 := 9) rfl rfl (h_gC rfl rfl rfl rfl) rfl ?_
  refine w_m0 (pc1 := 12) (st1 := .ref 24 :: _) rfl rfl (h_gRs (j := 6) rfl rfl rfl rfl rfl (by rw [tkS_tok F.1, hk])) rfl ?_
  refine w_c (pc1 := 15) rfl rfl rfl (fun fr lo h1 h2 => n_or rfl (by decide) (by decide) h1 h2) rfl ?_
  refine w_m0 (pc1 := 16) rfl rfl (rfl) rfl ?_
  refine w_p (pc1 := 85) rfl rfl ?_
  refine w_p (pc1 := 86) rfl rfl ?_
  refine w_m0 (pc1 := 89) rfl rfl (h_gC rfl rfl rfl rfl) rfl ?_
  refine w_m0 (pc1 := 92) (st1 := .ref 24 :: _) rfl rfl (h_gRs (j := 6) rfl rfl rfl rfl rfl (by rw [tkS_tok F.1, hk])) rfl ?_
  refine w_m0 (pc1 := 95) (st1 := .ref 24 :: _) rfl rfl rfl rfl ?_
  refine w_f (a := 102) (b := 98) rfl rfl rfl ?_
  refine w_p (pc1 := 99) (st1 := .int 3 :: _) rfl rfl ?_
  refine w_p (pc1 := 103) rfl rfl ?_
  refine w_p (pc1 := 104) (al1 := [(1, .int 3), (2, .int 0), (0, .ref 121)]) rfl rfl ?_
  refine w_p (pc1 := 105) rfl rfl ?_
  refine w_p (pc1 := 106) rfl rfl ?_
  refine w_p (pc1 := 107) (st1 := .int 3 :: _) rfl rfl ?_
  refine w_f (a := 114) (b := 110) rfl rfl rfl ?_
  refine w_p (pc1 := 111) (st1 := .int 2 :: _) rfl rfl ?_
  refine w_p (pc1 := 115) rfl rfl ?_
  refine w_je (pc1 := 118) (vs := [.ref 121, .int 2]) (rest := []) (st1 := []) (m_66y (d := _) (sl := 0) (by rw [fr_f F (by omega)]; exact hx) (by rw [fr_f F (by omega)]; exact hv)) rfl rfl rfl (fun _ _ => rfl) rfl (by exact cl_v my_66 rfl rfl rfl (Nat.le_of_ble_eq_true rfl) rfl (MH_obj rfl rfl) rfl (by decide) rfl rfl) (by rfl) (Nat.le_of_ble_eq_true rfl) (Nat.le_of_ble_eq_true rfl) rfl (by rfl) ?_
  refine w_p (pc1 := 119) rfl rfl ?_
  refine w_m0 (pc1 := 122) rfl rfl (h_gC rfl rfl rfl rfl) rfl ?_
  refine w_je (pc1 := 125) (vs := [.ref 101]) (rest := []) (st1 := []) (m_21s (d := _) (sl := 0) F.1 hk1 hk2) rfl rfl rfl (fun _ _ => rfl) rfl (by exact cl_v my_21 rfl rfl rfl (Nat.le_of_ble_eq_true rfl) rfl (MH_obj rfl rfl) rfl (by decide) rfl rfl) (by rfl) (Nat.le_of_ble_eq_true rfl) (Nat.le_of_ble_eq_true rfl) rfl (by rfl) ?_
  refine w_p (pc1 := 126) rfl rfl ?_
  refine w_m0 (pc1 := 129) rfl rfl (h_gC rfl rfl rfl rfl) rfl ?_
  refine w_m0 (pc1 := 132) (st1 := .ref 49 :: _) rfl rfl rfl rfl ?_
  refine w_ji (pc1 := 135) (vs := [.ref 101, .ref 49]) (rest := []) (m_38n (d := d + 4) (sl := 0) F1.1 (by decide) hd) rfl rfl rfl (fun _ _ => rfl) rfl (by exact cl_v my_38 rfl rfl rfl (Nat.le_of_ble_eq_true rfl) rfl (MH_obj rfl rfl) rfl (by decide) rfl rfl) (by rfl) (Nat.le_of_ble_eq_true rfl) (Nat.le_of_ble_eq_true rfl) rfl (fun v h1 d1 hq => ?_) (fun a h1 d1 hq => ?_)
  · exact hq.elim
  · rcases hq with ⟨ha, hh, hn⟩
    · subst ha; subst hh; subst hn
      refine Or.inl ⟨ch_new (by decide) rfl, ?_⟩
      exact X_up F1.2.2.2.2.2.2.2 F1.1 ⟨rfl, rfl, rfl⟩
set_option maxRecDepth 100000 in
theorem fw_nn (F : FK B n m C0 C s) (hk : kd B n s.1 = 24) (hx : C0.1 21 8 ≠ -1) (hv : C0.1 21 9 ≠ 2) (hd : kd B n (s.1 + 1) = 49) (hn3 : kd B n (s.1 + 2) ≠ 3) (hc : c = 2) (hi : i = s.1 + 2) : Wd L xs (d + 12) y_64 (0, [(0, .ref 121)], [], MH C t, 0) nP (XFK B n m C0 t 0 c i) := by
  subst hc
  subst hi
  have hk1 := (kne hk (by decide) (by decide)).1
  have hk2 := (kne hk (by decide) (by decide)).2
  have F1 := FK_n F hk1 hk2
  have hd1 := (kne hd (by decide) (by decide)).1
  have hd2 := (kne hd (by decide) (by decide)).2
  have F2 := FK_n F1 hd1 hd2
  refine w_p (pc1 := 1) (st1 := .int 0 :: _) rfl rfl ?_
  refine w_p (pc1 := 2) (al1 := [(2, .int 0), (0, .ref 121)]) rfl rfl ?_
  refine w_m0 (pc1 := 5) (st1 := .ref 61 :: _) rfl rfl rfl rfl ?_
  refine w_p (pc1 := 6) rfl rfl ?_
  refine w_m0 (pc1 := 9) rfl rfl (h_gC rfl rfl rfl rfl) rfl ?_
  refine w_m0 (pc1 := 12) (st1 := .ref 24 :: _) rfl rfl (h_gRs (j := 6) rfl rfl rfl rfl rfl (by rw [tkS_tok F.1, hk])) rfl ?_
  refine w_c (pc1 := 15) rfl rfl rfl (fun fr lo h1 h2 => n_or rfl (by decide) (by decide) h1 h2) rfl ?_
  refine w_m0 (pc1 := 16) rfl rfl (rfl) rfl ?_
  refine w_p (pc1 := 85) rfl rfl ?_
  refine w_p (pc1 := 86) rfl rfl ?_
  refine w_m0 (pc1 := 89) rfl rfl (h_gC rfl rfl rfl rfl) rfl ?_
  refine w_m0 (pc1 := 92) (st1 := .ref 24 :: _) rfl rfl (h_gRs (j := 6) rfl rfl rfl rfl rfl (by rw [tkS_tok F.1, hk])) rfl ?_
  refine w_m0 (pc1 := 95) (st1 := .ref 24 :: _) rfl rfl rfl rfl ?_
  refine w_f (a := 102) (b := 98) rfl rfl rfl ?_
  refine w_p (pc1 := 99) (st1 := .int 3 :: _) rfl rfl ?_
  refine w_p (pc1 := 103) rfl rfl ?_
  refine w_p (pc1 := 104) (al1 := [(1, .int 3), (2, .int 0), (0, .ref 121)]) rfl rfl ?_
  refine w_p (pc1 := 105) rfl rfl ?_
  refine w_p (pc1 := 106) rfl rfl ?_
  refine w_p (pc1 := 107) (st1 := .int 3 :: _) rfl rfl ?_
  refine w_f (a := 114) (b := 110) rfl rfl rfl ?_
  refine w_p (pc1 := 111) (st1 := .int 2 :: _) rfl rfl ?_
  refine w_p (pc1 := 115) rfl rfl ?_
  refine w_je (pc1 := 118) (vs := [.ref 121, .int 2]) (rest := []) (st1 := []) (m_66y (d := _) (sl := 0) (by rw [fr_f F (by omega)]; exact hx) (by rw [fr_f F (by omega)]; exact hv)) rfl rfl rfl (fun _ _ => rfl) rfl (by exact cl_v my_66 rfl rfl rfl (Nat.le_of_ble_eq_true rfl) rfl (MH_obj rfl rfl) rfl (by decide) rfl rfl) (by rfl) (Nat.le_of_ble_eq_true rfl) (Nat.le_of_ble_eq_true rfl) rfl (by rfl) ?_
  refine w_p (pc1 := 119) rfl rfl ?_
  refine w_m0 (pc1 := 122) rfl rfl (h_gC rfl rfl rfl rfl) rfl ?_
  refine w_je (pc1 := 125) (vs := [.ref 101]) (rest := []) (st1 := []) (m_21s (d := _) (sl := 0) F.1 hk1 hk2) rfl rfl rfl (fun _ _ => rfl) rfl (by exact cl_v my_21 rfl rfl rfl (Nat.le_of_ble_eq_true rfl) rfl (MH_obj rfl rfl) rfl (by decide) rfl rfl) (by rfl) (Nat.le_of_ble_eq_true rfl) (Nat.le_of_ble_eq_true rfl) rfl (by rfl) ?_
  refine w_p (pc1 := 126) rfl rfl ?_
  refine w_m0 (pc1 := 129) rfl rfl (h_gC rfl rfl rfl rfl) rfl ?_
  refine w_m0 (pc1 := 132) (st1 := .ref 49 :: _) rfl rfl rfl rfl ?_
  refine w_je (pc1 := 135) (vs := [.ref 101, .ref 49]) (rest := []) (st1 := []) (m_38y (d := _) (sl := 0) F1.1 (by decide) hd (by decide) (by decide)) rfl rfl rfl (fun _ _ => rfl) rfl (by exact cl_v my_38 rfl rfl rfl (Nat.le_of_ble_eq_true rfl) rfl (MH_obj rfl rfl) rfl (by decide) rfl rfl) (by rfl) (Nat.le_of_ble_eq_true rfl) (Nat.le_of_ble_eq_true rfl) rfl (by rfl) ?_
  refine w_p (pc1 := 136) rfl rfl ?_
  refine w_p (pc1 := 137) rfl rfl ?_
  refine w_m0 (pc1 := 140) rfl rfl (h_gI (j := 8) rfl rfl rfl rfl rfl) rfl ?_
  refine w_ji (pc1 := 143) (vs := [.ref 121, _]) (rest := []) (m_65n (d := d + 4) (sl := 0) F2.1 hn3) rfl rfl rfl (fun _ _ => rfl) rfl (by exact cl_v my_65 rfl rfl rfl (Nat.le_of_ble_eq_true rfl) rfl (MH_obj rfl rfl) rfl (by decide) rfl rfl) (by rfl) (Nat.le_of_ble_eq_true rfl) (Nat.le_of_ble_eq_true rfl) rfl (fun v h1 d1 hq => ?_) (fun a h1 d1 hq => ?_)
  · exact hq.elim
  · rcases hq with ⟨ha, hh, hn⟩
    · subst ha; subst hh; subst hn
      refine Or.inl ⟨ch_new (by decide) rfl, ?_⟩
      exact X_up F2.2.2.2.2.2.2.2 F2.1 ⟨rfl, rfl, rfl⟩
set_option maxRecDepth 100000 in
theorem fw_un (F : FK B n m C0 C s) {b w : Nat} (hb : b < 6) (hw : w ≤ 6) (ht : C0.1 21 8 = nI b) (h8 : C0.1 8 b = nI w) (hk : kd B n s.1 = 24) (hx : C0.1 21 8 ≠ -1) (hv : C0.1 21 9 ≠ 2) (hd : kd B n (s.1 + 1) = 49) (hn3 : kd B n (s.1 + 2) = 3) (hg : fnd (fun j => decide (C0.2.1 9 (b * 6 + j) = vl B n (s.1 + 2))) w 0 = -1) (hc : c = 4) (hi : i = s.1 + 2) : Wd L xs (d + 12) y_64 (0, [(0, .ref 121)], [], MH C t, 0) nP (XFK B n m C0 t 0 c i) := by
  subst hc
  subst hi
  have hk1 := (kne hk (by decide) (by decide)).1
  have hk2 := (kne hk (by decide) (by decide)).2
  have F1 := FK_n F hk1 hk2
  have hd1 := (kne hd (by decide) (by decide)).1
  have hd2 := (kne hd (by decide) (by decide)).2
  have F2 := FK_n F1 hd1 hd2
  refine w_p (pc1 := 1) (st1 := .int 0 :: _) rfl rfl ?_
  refine w_p (pc1 := 2) (al1 := [(2, .int 0), (0, .ref 121)]) rfl rfl ?_
  refine w_m0 (pc1 := 5) (st1 := .ref 61 :: _) rfl rfl rfl rfl ?_
  refine w_p (pc1 := 6) rfl rfl ?_
  refine w_m0 (pc1 := 9) rfl rfl (h_gC rfl rfl rfl rfl) rfl ?_
  refine w_m0 (pc1 := 12) (st1 := .ref 24 :: _) rfl rfl (h_gRs (j := 6) rfl rfl rfl rfl rfl (by rw [tkS_tok F.1, hk])) rfl ?_
  refine w_c (pc1 := 15) rfl rfl rfl (fun fr lo h1 h2 => n_or rfl (by decide) (by decide) h1 h2) rfl ?_
  refine w_m0 (pc1 := 16) rfl rfl (rfl) rfl ?_
  refine w_p (pc1 := 85) rfl rfl ?_
  refine w_p (pc1 := 86) rfl rfl ?_
  refine w_m0 (pc1 := 89) rfl rfl (h_gC rfl rfl rfl rfl) rfl ?_
  refine w_m0 (pc1 := 92) (st1 := .ref 24 :: _) rfl rfl (h_gRs (j := 6) rfl rfl rfl rfl rfl (by rw [tkS_tok F.1, hk])) rfl ?_
  refine w_m0 (pc1 := 95) (st1 := .ref 24 :: _) rfl rfl rfl rfl ?_
  refine w_f (a := 102) (b := 98) rfl rfl rfl ?_
  refine w_p (pc1 := 99) (st1 := .int 3 :: _) rfl rfl ?_
  refine w_p (pc1 := 103) rfl rfl ?_
  refine w_p (pc1 := 104) (al1 := [(1, .int 3), (2, .int 0), (0, .ref 121)]) rfl rfl ?_
  refine w_p (pc1 := 105) rfl rfl ?_
  refine w_p (pc1 := 106) rfl rfl ?_
  refine w_p (pc1 := 107) (st1 := .int 3 :: _) rfl rfl ?_
  refine w_f (a := 114) (b := 110) rfl rfl rfl ?_
  refine w_p (pc1 := 111) (st1 := .int 2 :: _) rfl rfl ?_
  refine w_p (pc1 := 115) rfl rfl ?_
  refine w_je (pc1 := 118) (vs := [.ref 121, .int 2]) (rest := []) (st1 := []) (m_66y (d := _) (sl := 0) (by rw [fr_f F (by omega)]; exact hx) (by rw [fr_f F (by omega)]; exact hv)) rfl rfl rfl (fun _ _ => rfl) rfl (by exact cl_v my_66 rfl rfl rfl (Nat.le_of_ble_eq_true rfl) rfl (MH_obj rfl rfl) rfl (by decide) rfl rfl) (by rfl) (Nat.le_of_ble_eq_true rfl) (Nat.le_of_ble_eq_true rfl) rfl (by rfl) ?_
  refine w_p (pc1 := 119) rfl rfl ?_
  refine w_m0 (pc1 := 122) rfl rfl (h_gC rfl rfl rfl rfl) rfl ?_
  refine w_je (pc1 := 125) (vs := [.ref 101]) (rest := []) (st1 := []) (m_21s (d := _) (sl := 0) F.1 hk1 hk2) rfl rfl rfl (fun _ _ => rfl) rfl (by exact cl_v my_21 rfl rfl rfl (Nat.le_of_ble_eq_true rfl) rfl (MH_obj rfl rfl) rfl (by decide) rfl rfl) (by rfl) (Nat.le_of_ble_eq_true rfl) (Nat.le_of_ble_eq_true rfl) rfl (by rfl) ?_
  refine w_p (pc1 := 126) rfl rfl ?_
  refine w_m0 (pc1 := 129) rfl rfl (h_gC rfl rfl rfl rfl) rfl ?_
  refine w_m0 (pc1 := 132) (st1 := .ref 49 :: _) rfl rfl rfl rfl ?_
  refine w_je (pc1 := 135) (vs := [.ref 101, .ref 49]) (rest := []) (st1 := []) (m_38y (d := _) (sl := 0) F1.1 (by decide) hd (by decide) (by decide)) rfl rfl rfl (fun _ _ => rfl) rfl (by exact cl_v my_38 rfl rfl rfl (Nat.le_of_ble_eq_true rfl) rfl (MH_obj rfl rfl) rfl (by decide) rfl rfl) (by rfl) (Nat.le_of_ble_eq_true rfl) (Nat.le_of_ble_eq_true rfl) rfl (by rfl) ?_
  refine w_p (pc1 := 136) rfl rfl ?_
  refine w_p (pc1 := 137) rfl rfl ?_
  refine w_m0 (pc1 := 140) (st1 := .int (nI (b)) :: _) rfl rfl (h_gIe (j := 8) rfl rfl rfl rfl rfl (by rw [fr_f F2 (by omega)]; exact ht)) rfl ?_
  refine w_ji (pc1 := 143) (vs := [.ref 121, .int (nI (b))]) (rest := []) (m_65c (d := d + 4) (sl := 0) F2.1 hb (fr_w F2 h8) hw hn3 (by rw [fr_col F2]; exact hg)) rfl rfl rfl (fun _ _ => rfl) rfl (by exact cl_v my_65 rfl rfl rfl (Nat.le_of_ble_eq_true rfl) rfl (MH_obj rfl rfl) rfl (by decide) rfl rfl) (by rfl) (Nat.le_of_ble_eq_true rfl) (Nat.le_of_ble_eq_true rfl) rfl (fun v h1 d1 hq => ?_) (fun a h1 d1 hq => ?_)
  · exact hq.elim
  · rcases hq with ⟨ha, hh, hn⟩
    · subst ha; subst hh; subst hn
      refine Or.inl ⟨ch_new (by decide) rfl, ?_⟩
      exact X_up F2.2.2.2.2.2.2.2 F2.1 ⟨rfl, rfl, rfl⟩
set_option maxRecDepth 100000 in
theorem fw_ok (F : FK B n m C0 C s) {b w : Nat} (hb : b < 6) (hw : w ≤ 6) (ht : C0.1 21 8 = nI b) (h8 : C0.1 8 b = nI w) (hk : kd B n s.1 = 24) (hx : C0.1 21 8 ≠ -1) (hv : C0.1 21 9 ≠ 2) (hd : kd B n (s.1 + 1) = 49) (hn3 : kd B n (s.1 + 2) = 3) (hg : fnd (fun j => decide (C0.2.1 9 (b * 6 + j) = vl B n (s.1 + 2))) w 0 ≠ -1) (h : lef (nxt (nxt s)) 3 (fnd (fun j => decide (C0.2.1 9 (b * 6 + j) = vl B n (s.1 + 2))) w 0) = .inr z) : Wd L xs (d + 12) y_64 (0, [(0, .ref 121)], [], MH C t, 0) (PFK B n m C0 t 0 z) nX := by
  have hk1 := (kne hk (by decide) (by decide)).1
  have hk2 := (kne hk (by decide) (by decide)).2
  have F1 := FK_n F hk1 hk2
  have hd1 := (kne hd (by decide) (by decide)).1
  have hd2 := (kne hd (by decide) (by decide)).2
  have F2 := FK_n F1 hd1 hd2
  rw [← fr_col F2] at hg h
  refine w_p (pc1 := 1) (st1 := .int 0 :: _) rfl rfl ?_
  refine w_p (pc1 := 2) (al1 := [(2, .int 0), (0, .ref 121)]) rfl rfl ?_
  refine w_m0 (pc1 := 5) (st1 := .ref 61 :: _) rfl rfl rfl rfl ?_
  refine w_p (pc1 := 6) rfl rfl ?_
  refine w_m0 (pc1 := 9) rfl rfl (h_gC rfl rfl rfl rfl) rfl ?_
  refine w_m0 (pc1 := 12) (st1 := .ref 24 :: _) rfl rfl (h_gRs (j := 6) rfl rfl rfl rfl rfl (by rw [tkS_tok F.1, hk])) rfl ?_
  refine w_c (pc1 := 15) rfl rfl rfl (fun fr lo h1 h2 => n_or rfl (by decide) (by decide) h1 h2) rfl ?_
  refine w_m0 (pc1 := 16) rfl rfl (rfl) rfl ?_
  refine w_p (pc1 := 85) rfl rfl ?_
  refine w_p (pc1 := 86) rfl rfl ?_
  refine w_m0 (pc1 := 89) rfl rfl (h_gC rfl rfl rfl rfl) rfl ?_
  refine w_m0 (pc1 := 92) (st1 := .ref 24 :: _) rfl rfl (h_gRs (j := 6) rfl rfl rfl rfl rfl (by rw [tkS_tok F.1, hk])) rfl ?_
  refine w_m0 (pc1 := 95) (st1 := .ref 24 :: _) rfl rfl rfl rfl ?_
  refine w_f (a := 102) (b := 98) rfl rfl rfl ?_
  refine w_p (pc1 := 99) (st1 := .int 3 :: _) rfl rfl ?_
  refine w_p (pc1 := 103) rfl rfl ?_
  refine w_p (pc1 := 104) (al1 := [(1, .int 3), (2, .int 0), (0, .ref 121)]) rfl rfl ?_
  refine w_p (pc1 := 105) rfl rfl ?_
  refine w_p (pc1 := 106) rfl rfl ?_
  refine w_p (pc1 := 107) (st1 := .int 3 :: _) rfl rfl ?_
  refine w_f (a := 114) (b := 110) rfl rfl rfl ?_
  refine w_p (pc1 := 111) (st1 := .int 2 :: _) rfl rfl ?_
  refine w_p (pc1 := 115) rfl rfl ?_
  refine w_je (pc1 := 118) (vs := [.ref 121, .int 2]) (rest := []) (st1 := []) (m_66y (d := _) (sl := 0) (by rw [fr_f F (by omega)]; exact hx) (by rw [fr_f F (by omega)]; exact hv)) rfl rfl rfl (fun _ _ => rfl) rfl (by exact cl_v my_66 rfl rfl rfl (Nat.le_of_ble_eq_true rfl) rfl (MH_obj rfl rfl) rfl (by decide) rfl rfl) (by rfl) (Nat.le_of_ble_eq_true rfl) (Nat.le_of_ble_eq_true rfl) rfl (by rfl) ?_
  refine w_p (pc1 := 119) rfl rfl ?_
  refine w_m0 (pc1 := 122) rfl rfl (h_gC rfl rfl rfl rfl) rfl ?_
  refine w_je (pc1 := 125) (vs := [.ref 101]) (rest := []) (st1 := []) (m_21s (d := _) (sl := 0) F.1 hk1 hk2) rfl rfl rfl (fun _ _ => rfl) rfl (by exact cl_v my_21 rfl rfl rfl (Nat.le_of_ble_eq_true rfl) rfl (MH_obj rfl rfl) rfl (by decide) rfl rfl) (by rfl) (Nat.le_of_ble_eq_true rfl) (Nat.le_of_ble_eq_true rfl) rfl (by rfl) ?_
  refine w_p (pc1 := 126) rfl rfl ?_
  refine w_m0 (pc1 := 129) rfl rfl (h_gC rfl rfl rfl rfl) rfl ?_
  refine w_m0 (pc1 := 132) (st1 := .ref 49 :: _) rfl rfl rfl rfl ?_
  refine w_je (pc1 := 135) (vs := [.ref 101, .ref 49]) (rest := []) (st1 := []) (m_38y (d := _) (sl := 0) F1.1 (by decide) hd (by decide) (by decide)) rfl rfl rfl (fun _ _ => rfl) rfl (by exact cl_v my_38 rfl rfl rfl (Nat.le_of_ble_eq_true rfl) rfl (MH_obj rfl rfl) rfl (by decide) rfl rfl) (by rfl) (Nat.le_of_ble_eq_true rfl) (Nat.le_of_ble_eq_true rfl) rfl (by rfl) ?_
  refine w_p (pc1 := 136) rfl rfl ?_
  refine w_p (pc1 := 137) rfl rfl ?_
  refine w_m0 (pc1 := 140) (st1 := .int (nI (b)) :: _) rfl rfl (h_gIe (j := 8) rfl rfl rfl rfl rfl (by rw [fr_f F2 (by omega)]; exact ht)) rfl ?_
  refine w_je (pc1 := 143) (vs := [.ref 121, .int (nI (b))]) (rest := []) (st1 := [.int (fnd (fun j => decide ((nxT B n (nxT B n C s.1) (s.1 + 1)).2.1 9 (b * 6 + j) = vl B n (s.1 + 2))) w 0)]) (m_65y (d := _) (sl := 0) F2.1 hb (fr_w F2 h8) hw hn3 hg) rfl rfl rfl (fun _ _ => rfl) rfl (by exact cl_v my_65 rfl rfl rfl (Nat.le_of_ble_eq_true rfl) rfl (MH_obj rfl rfl) rfl (by decide) rfl rfl) (by rfl) (Nat.le_of_ble_eq_true rfl) (Nat.le_of_ble_eq_true rfl) rfl (by rfl) ?_
  refine w_p (pc1 := 144) (al1 := [(2, .int (fnd (fun j => decide ((nxT B n (nxT B n C s.1) (s.1 + 1)).2.1 9 (b * 6 + j) = vl B n (s.1 + 2))) w 0)), (1, .int 3), (0, .ref 121)]) rfl rfl ?_
  refine w_p (pc1 := 152) rfl rfl ?_
  exact lf_ok1 (d := d + 11) F2 (kne hn3 (by decide) (by decide)).1 (kne hn3 (by decide) (by decide)).2 h
set_option maxRecDepth 100000 in
theorem fw_er (F : FK B n m C0 C s) {b w : Nat} (hb : b < 6) (hw : w ≤ 6) (ht : C0.1 21 8 = nI b) (h8 : C0.1 8 b = nI w) (hk : kd B n s.1 = 24) (hx : C0.1 21 8 ≠ -1) (hv : C0.1 21 9 ≠ 2) (hd : kd B n (s.1 + 1) = 49) (hn3 : kd B n (s.1 + 2) = 3) (hg : fnd (fun j => decide (C0.2.1 9 (b * 6 + j) = vl B n (s.1 + 2))) w 0 ≠ -1) (h : lef (nxt (nxt s)) 3 (fnd (fun j => decide (C0.2.1 9 (b * 6 + j) = vl B n (s.1 + 2))) w 0) = .inl (c, i)) : Wd L xs (d + 12) y_64 (0, [(0, .ref 121)], [], MH C t, 0) nP (XFK B n m C0 t 0 c i) := by
  have hk1 := (kne hk (by decide) (by decide)).1
  have hk2 := (kne hk (by decide) (by decide)).2
  have F1 := FK_n F hk1 hk2
  have hd1 := (kne hd (by decide) (by decide)).1
  have hd2 := (kne hd (by decide) (by decide)).2
  have F2 := FK_n F1 hd1 hd2
  rw [← fr_col F2] at hg h
  refine w_p (pc1 := 1) (st1 := .int 0 :: _) rfl rfl ?_
  refine w_p (pc1 := 2) (al1 := [(2, .int 0), (0, .ref 121)]) rfl rfl ?_
  refine w_m0 (pc1 := 5) (st1 := .ref 61 :: _) rfl rfl rfl rfl ?_
  refine w_p (pc1 := 6) rfl rfl ?_
  refine w_m0 (pc1 := 9) rfl rfl (h_gC rfl rfl rfl rfl) rfl ?_
  refine w_m0 (pc1 := 12) (st1 := .ref 24 :: _) rfl rfl (h_gRs (j := 6) rfl rfl rfl rfl rfl (by rw [tkS_tok F.1, hk])) rfl ?_
  refine w_c (pc1 := 15) rfl rfl rfl (fun fr lo h1 h2 => n_or rfl (by decide) (by decide) h1 h2) rfl ?_
  refine w_m0 (pc1 := 16) rfl rfl (rfl) rfl ?_
  refine w_p (pc1 := 85) rfl rfl ?_
  refine w_p (pc1 := 86) rfl rfl ?_
  refine w_m0 (pc1 := 89) rfl rfl (h_gC rfl rfl rfl rfl) rfl ?_
  refine w_m0 (pc1 := 92) (st1 := .ref 24 :: _) rfl rfl (h_gRs (j := 6) rfl rfl rfl rfl rfl (by rw [tkS_tok F.1, hk])) rfl ?_
  refine w_m0 (pc1 := 95) (st1 := .ref 24 :: _) rfl rfl rfl rfl ?_
  refine w_f (a := 102) (b := 98) rfl rfl rfl ?_
  refine w_p (pc1 := 99) (st1 := .int 3 :: _) rfl rfl ?_
  refine w_p (pc1 := 103) rfl rfl ?_
  refine w_p (pc1 := 104) (al1 := [(1, .int 3), (2, .int 0), (0, .ref 121)]) rfl rfl ?_
  refine w_p (pc1 := 105) rfl rfl ?_
  refine w_p (pc1 := 106) rfl rfl ?_
  refine w_p (pc1 := 107) (st1 := .int 3 :: _) rfl rfl ?_
  refine w_f (a := 114) (b := 110) rfl rfl rfl ?_
  refine w_p (pc1 := 111) (st1 := .int 2 :: _) rfl rfl ?_
  refine w_p (pc1 := 115) rfl rfl ?_
  refine w_je (pc1 := 118) (vs := [.ref 121, .int 2]) (rest := []) (st1 := []) (m_66y (d := _) (sl := 0) (by rw [fr_f F (by omega)]; exact hx) (by rw [fr_f F (by omega)]; exact hv)) rfl rfl rfl (fun _ _ => rfl) rfl (by exact cl_v my_66 rfl rfl rfl (Nat.le_of_ble_eq_true rfl) rfl (MH_obj rfl rfl) rfl (by decide) rfl rfl) (by rfl) (Nat.le_of_ble_eq_true rfl) (Nat.le_of_ble_eq_true rfl) rfl (by rfl) ?_
  refine w_p (pc1 := 119) rfl rfl ?_
  refine w_m0 (pc1 := 122) rfl rfl (h_gC rfl rfl rfl rfl) rfl ?_
  refine w_je (pc1 := 125) (vs := [.ref 101]) (rest := []) (st1 := []) (m_21s (d := _) (sl := 0) F.1 hk1 hk2) rfl rfl rfl (fun _ _ => rfl) rfl (by exact cl_v my_21 rfl rfl rfl (Nat.le_of_ble_eq_true rfl) rfl (MH_obj rfl rfl) rfl (by decide) rfl rfl) (by rfl) (Nat.le_of_ble_eq_true rfl) (Nat.le_of_ble_eq_true rfl) rfl (by rfl) ?_
  refine w_p (pc1 := 126) rfl rfl ?_
  refine w_m0 (pc1 := 129) rfl rfl (h_gC rfl rfl rfl rfl) rfl ?_
  refine w_m0 (pc1 := 132) (st1 := .ref 49 :: _) rfl rfl rfl rfl ?_
  refine w_je (pc1 := 135) (vs := [.ref 101, .ref 49]) (rest := []) (st1 := []) (m_38y (d := _) (sl := 0) F1.1 (by decide) hd (by decide) (by decide)) rfl rfl rfl (fun _ _ => rfl) rfl (by exact cl_v my_38 rfl rfl rfl (Nat.le_of_ble_eq_true rfl) rfl (MH_obj rfl rfl) rfl (by decide) rfl rfl) (by rfl) (Nat.le_of_ble_eq_true rfl) (Nat.le_of_ble_eq_true rfl) rfl (by rfl) ?_
  refine w_p (pc1 := 136) rfl rfl ?_
  refine w_p (pc1 := 137) rfl rfl ?_
  refine w_m0 (pc1 := 140) (st1 := .int (nI (b)) :: _) rfl rfl (h_gIe (j := 8) rfl rfl rfl rfl rfl (by rw [fr_f F2 (by omega)]; exact ht)) rfl ?_
  refine w_je (pc1 := 143) (vs := [.ref 121, .int (nI (b))]) (rest := []) (st1 := [.int (fnd (fun j => decide ((nxT B n (nxT B n C s.1) (s.1 + 1)).2.1 9 (b * 6 + j) = vl B n (s.1 + 2))) w 0)]) (m_65y (d := _) (sl := 0) F2.1 hb (fr_w F2 h8) hw hn3 hg) rfl rfl rfl (fun _ _ => rfl) rfl (by exact cl_v my_65 rfl rfl rfl (Nat.le_of_ble_eq_true rfl) rfl (MH_obj rfl rfl) rfl (by decide) rfl rfl) (by rfl) (Nat.le_of_ble_eq_true rfl) (Nat.le_of_ble_eq_true rfl) rfl (by rfl) ?_
  refine w_p (pc1 := 144) (al1 := [(2, .int (fnd (fun j => decide ((nxT B n (nxT B n C s.1) (s.1 + 1)).2.1 9 (b * 6 + j) = vl B n (s.1 + 2))) w 0)), (1, .int 3), (0, .ref 121)]) rfl rfl ?_
  refine w_p (pc1 := 152) rfl rfl ?_
  exact lf_er1 (d := d + 4) F2 h
set_option maxRecDepth 100000 in
theorem fd_no (F : FK B n m C0 C s) (hk : kd B n s.1 = 28) (hx : C0.1 21 8 = -1 ∨ C0.1 21 9 = 0) (hc : c = 7) (hi : i = s.1) : Wd L xs (d + 12) y_64 (0, [(0, .ref 121)], [], MH C t, 0) nP (XFK B n m C0 t 0 c i) := by
  subst hc
  subst hi
  refine w_p (pc1 := 1) (st1 := .int 0 :: _) rfl rfl ?_
  refine w_p (pc1 := 2) (al1 := [(2, .int 0), (0, .ref 121)]) rfl rfl ?_
  refine w_m0 (pc1 := 5) (st1 := .ref 61 :: _) rfl rfl rfl rfl ?_
  refine w_p (pc1 := 6) rfl rfl ?_
  refine w_m0 (pc1 := 9) rfl rfl (h_gC rfl rfl rfl rfl) rfl ?_
  refine w_m0 (pc1 := 12) (st1 := .ref 28 :: _) rfl rfl (h_gRs (j := 6) rfl rfl rfl rfl rfl (by rw [tkS_tok F.1, hk])) rfl ?_
  refine w_c (pc1 := 15) rfl rfl rfl (fun fr lo h1 h2 => n_or rfl (by decide) (by decide) h1 h2) rfl ?_
  refine w_m0 (pc1 := 16) rfl rfl (rfl) rfl ?_
  refine w_p (pc1 := 85) rfl rfl ?_
  refine w_p (pc1 := 86) rfl rfl ?_
  refine w_m0 (pc1 := 89) rfl rfl (h_gC rfl rfl rfl rfl) rfl ?_
  refine w_m0 (pc1 := 92) (st1 := .ref 28 :: _) rfl rfl (h_gRs (j := 6) rfl rfl rfl rfl rfl (by rw [tkS_tok F.1, hk])) rfl ?_
  refine w_m0 (pc1 := 95) (st1 := .ref 24 :: _) rfl rfl rfl rfl ?_
  refine w_t (a := 102) (b := 98) rfl rfl rfl ?_
  refine w_p (pc1 := 103) (st1 := .int 4 :: _) rfl rfl ?_
  refine w_p (pc1 := 104) (al1 := [(1, .int 4), (2, .int 0), (0, .ref 121)]) rfl rfl ?_
  refine w_p (pc1 := 105) rfl rfl ?_
  refine w_p (pc1 := 106) rfl rfl ?_
  refine w_p (pc1 := 107) (st1 := .int 3 :: _) rfl rfl ?_
  refine w_t (a := 114) (b := 110) rfl rfl rfl ?_
  refine w_p (pc1 := 115) (st1 := .int 0 :: _) rfl rfl ?_
  refine w_ji (pc1 := 118) (vs := [.ref 121, .int 0]) (rest := []) (m_66n (d := d + 4) (sl := 0) F.1 (by rw [fr_f F (by omega), fr_f F (by omega)]; exact hx)) rfl rfl rfl (fun _ _ => rfl) rfl (by exact cl_v my_66 rfl rfl rfl (Nat.le_of_ble_eq_true rfl) rfl (MH_obj rfl rfl) rfl (by decide) rfl rfl) (by rfl) (Nat.le_of_ble_eq_true rfl) (Nat.le_of_ble_eq_true rfl) rfl (fun v h1 d1 hq => ?_) (fun a h1 d1 hq => ?_)
  · exact hq.elim
  · rcases hq with ⟨ha, hh, hn⟩
    · subst ha; subst hh; subst hn
      refine Or.inl ⟨ch_new (by decide) rfl, ?_⟩
      exact X_up F.2.2.2.2.2.2.2 F.1 ⟨rfl, rfl, rfl⟩
set_option maxRecDepth 100000 in
theorem fd_nd (F : FK B n m C0 C s) (hk : kd B n s.1 = 28) (hx : C0.1 21 8 ≠ -1) (hv : C0.1 21 9 ≠ 0) (hd : kd B n (s.1 + 1) ≠ 49) (hc : c = 2) (hi : i = s.1 + 1) : Wd L xs (d + 12) y_64 (0, [(0, .ref 121)], [], MH C t, 0) nP (XFK B n m C0 t 0 c i) := by
  subst hc
  subst hi
  have hk1 := (kne hk (by decide) (by decide)).1
  have hk2 := (kne hk (by decide) (by decide)).2
  have F1 := FK_n F hk1 hk2
  refine w_p (pc1 := 1) (st1 := .int 0 :: _) rfl rfl ?_
  refine w_p (pc1 := 2) (al1 := [(2, .int 0), (0, .ref 121)]) rfl rfl ?_
  refine w_m0 (pc1 := 5) (st1 := .ref 61 :: _) rfl rfl rfl rfl ?_
  refine w_p (pc1 := 6) rfl rfl ?_
  refine w_m0 (pc1 := 9) rfl rfl (h_gC rfl rfl rfl rfl) rfl ?_
  refine w_m0 (pc1 := 12) (st1 := .ref 28 :: _) rfl rfl (h_gRs (j := 6) rfl rfl rfl rfl rfl (by rw [tkS_tok F.1, hk])) rfl ?_
  refine w_c (pc1 := 15) rfl rfl rfl (fun fr lo h1 h2 => n_or rfl (by decide) (by decide) h1 h2) rfl ?_
  refine w_m0 (pc1 := 16) rfl rfl (rfl) rfl ?_
  refine w_p (pc1 := 85) rfl rfl ?_
  refine w_p (pc1 := 86) rfl rfl ?_
  refine w_m0 (pc1 := 89) rfl rfl (h_gC rfl rfl rfl rfl) rfl ?_
  refine w_m0 (pc1 := 92) (st1 := .ref 28 :: _) rfl rfl (h_gRs (j := 6) rfl rfl rfl rfl rfl (by rw [tkS_tok F.1, hk])) rfl ?_
  refine w_m0 (pc1 := 95) (st1 := .ref 24 :: _) rfl rfl rfl rfl ?_
  refine w_t (a := 102) (b := 98) rfl rfl rfl ?_
  refine w_p (pc1 := 103) (st1 := .int 4 :: _) rfl rfl ?_
  refine w_p (pc1 := 104) (al1 := [(1, .int 4), (2, .int 0), (0, .ref 121)]) rfl rfl ?_
  refine w_p (pc1 := 105) rfl rfl ?_
  refine w_p (pc1 := 106) rfl rfl ?_
  refine w_p (pc1 := 107) (st1 := .int 3 :: _) rfl rfl ?_
  refine w_t (a := 114) (b := 110) rfl rfl rfl ?_
  refine w_p (pc1 := 115) (st1 := .int 0 :: _) rfl rfl ?_
  refine w_je (pc1 := 118) (vs := [.ref 121, .int 0]) (rest := []) (st1 := []) (m_66y (d := _) (sl := 0) (by rw [fr_f F (by omega)]; exact hx) (by rw [fr_f F (by omega)]; exact hv)) rfl rfl rfl (fun _ _ => rfl) rfl (by exact cl_v my_66 rfl rfl rfl (Nat.le_of_ble_eq_true rfl) rfl (MH_obj rfl rfl) rfl (by decide) rfl rfl) (by rfl) (Nat.le_of_ble_eq_true rfl) (Nat.le_of_ble_eq_true rfl) rfl (by rfl) ?_
  refine w_p (pc1 := 119) rfl rfl ?_
  refine w_m0 (pc1 := 122) rfl rfl (h_gC rfl rfl rfl rfl) rfl ?_
  refine w_je (pc1 := 125) (vs := [.ref 101]) (rest := []) (st1 := []) (m_21s (d := _) (sl := 0) F.1 hk1 hk2) rfl rfl rfl (fun _ _ => rfl) rfl (by exact cl_v my_21 rfl rfl rfl (Nat.le_of_ble_eq_true rfl) rfl (MH_obj rfl rfl) rfl (by decide) rfl rfl) (by rfl) (Nat.le_of_ble_eq_true rfl) (Nat.le_of_ble_eq_true rfl) rfl (by rfl) ?_
  refine w_p (pc1 := 126) rfl rfl ?_
  refine w_m0 (pc1 := 129) rfl rfl (h_gC rfl rfl rfl rfl) rfl ?_
  refine w_m0 (pc1 := 132) (st1 := .ref 49 :: _) rfl rfl rfl rfl ?_
  refine w_ji (pc1 := 135) (vs := [.ref 101, .ref 49]) (rest := []) (m_38n (d := d + 4) (sl := 0) F1.1 (by decide) hd) rfl rfl rfl (fun _ _ => rfl) rfl (by exact cl_v my_38 rfl rfl rfl (Nat.le_of_ble_eq_true rfl) rfl (MH_obj rfl rfl) rfl (by decide) rfl rfl) (by rfl) (Nat.le_of_ble_eq_true rfl) (Nat.le_of_ble_eq_true rfl) rfl (fun v h1 d1 hq => ?_) (fun a h1 d1 hq => ?_)
  · exact hq.elim
  · rcases hq with ⟨ha, hh, hn⟩
    · subst ha; subst hh; subst hn
      refine Or.inl ⟨ch_new (by decide) rfl, ?_⟩
      exact X_up F1.2.2.2.2.2.2.2 F1.1 ⟨rfl, rfl, rfl⟩
set_option maxRecDepth 100000 in
theorem fd_nn (F : FK B n m C0 C s) (hk : kd B n s.1 = 28) (hx : C0.1 21 8 ≠ -1) (hv : C0.1 21 9 ≠ 0) (hd : kd B n (s.1 + 1) = 49) (hn3 : kd B n (s.1 + 2) ≠ 3) (hc : c = 2) (hi : i = s.1 + 2) : Wd L xs (d + 12) y_64 (0, [(0, .ref 121)], [], MH C t, 0) nP (XFK B n m C0 t 0 c i) := by
  subst hc
  subst hi
  have hk1 := (kne hk (by decide) (by decide)).1
  have hk2 := (kne hk (by decide) (by decide)).2
  have F1 := FK_n F hk1 hk2
  have hd1 := (kne hd (by decide) (by decide)).1
  have hd2 := (kne hd (by decide) (by decide)).2
  have F2 := FK_n F1 hd1 hd2
  refine w_p (pc1 := 1) (st1 := .int 0 :: _) rfl rfl ?_
  refine w_p (pc1 := 2) (al1 := [(2, .int 0), (0, .ref 121)]) rfl rfl ?_
  refine w_m0 (pc1 := 5) (st1 := .ref 61 :: _) rfl rfl rfl rfl ?_
  refine w_p (pc1 := 6) rfl rfl ?_
  refine w_m0 (pc1 := 9) rfl rfl (h_gC rfl rfl rfl rfl) rfl ?_
  refine w_m0 (pc1 := 12) (st1 := .ref 28 :: _) rfl rfl (h_gRs (j := 6) rfl rfl rfl rfl rfl (by rw [tkS_tok F.1, hk])) rfl ?_
  refine w_c (pc1 := 15) rfl rfl rfl (fun fr lo h1 h2 => n_or rfl (by decide) (by decide) h1 h2) rfl ?_
  refine w_m0 (pc1 := 16) rfl rfl (rfl) rfl ?_
  refine w_p (pc1 := 85) rfl rfl ?_
  refine w_p (pc1 := 86) rfl rfl ?_
  refine w_m0 (pc1 := 89) rfl rfl (h_gC rfl rfl rfl rfl) rfl ?_
  refine w_m0 (pc1 := 92) (st1 := .ref 28 :: _) rfl rfl (h_gRs (j := 6) rfl rfl rfl rfl rfl (by rw [tkS_tok F.1, hk])) rfl ?_
  refine w_m0 (pc1 := 95) (st1 := .ref 24 :: _) rfl rfl rfl rfl ?_
  refine w_t (a := 102) (b := 98) rfl rfl rfl ?_
  refine w_p (pc1 := 103) (st1 := .int 4 :: _) rfl rfl ?_
  refine w_p (pc1 := 104) (al1 := [(1, .int 4), (2, .int 0), (0, .ref 121)]) rfl rfl ?_
  refine w_p (pc1 := 105) rfl rfl ?_
  refine w_p (pc1 := 106) rfl rfl ?_
  refine w_p (pc1 := 107) (st1 := .int 3 :: _) rfl rfl ?_
  refine w_t (a := 114) (b := 110) rfl rfl rfl ?_
  refine w_p (pc1 := 115) (st1 := .int 0 :: _) rfl rfl ?_
  refine w_je (pc1 := 118) (vs := [.ref 121, .int 0]) (rest := []) (st1 := []) (m_66y (d := _) (sl := 0) (by rw [fr_f F (by omega)]; exact hx) (by rw [fr_f F (by omega)]; exact hv)) rfl rfl rfl (fun _ _ => rfl) rfl (by exact cl_v my_66 rfl rfl rfl (Nat.le_of_ble_eq_true rfl) rfl (MH_obj rfl rfl) rfl (by decide) rfl rfl) (by rfl) (Nat.le_of_ble_eq_true rfl) (Nat.le_of_ble_eq_true rfl) rfl (by rfl) ?_
  refine w_p (pc1 := 119) rfl rfl ?_
  refine w_m0 (pc1 := 122) rfl rfl (h_gC rfl rfl rfl rfl) rfl ?_
  refine w_je (pc1 := 125) (vs := [.ref 101]) (rest := []) (st1 := []) (m_21s (d := _) (sl := 0) F.1 hk1 hk2) rfl rfl rfl (fun _ _ => rfl) rfl (by exact cl_v my_21 rfl rfl rfl (Nat.le_of_ble_eq_true rfl) rfl (MH_obj rfl rfl) rfl (by decide) rfl rfl) (by rfl) (Nat.le_of_ble_eq_true rfl) (Nat.le_of_ble_eq_true rfl) rfl (by rfl) ?_
  refine w_p (pc1 := 126) rfl rfl ?_
  refine w_m0 (pc1 := 129) rfl rfl (h_gC rfl rfl rfl rfl) rfl ?_
  refine w_m0 (pc1 := 132) (st1 := .ref 49 :: _) rfl rfl rfl rfl ?_
  refine w_je (pc1 := 135) (vs := [.ref 101, .ref 49]) (rest := []) (st1 := []) (m_38y (d := _) (sl := 0) F1.1 (by decide) hd (by decide) (by decide)) rfl rfl rfl (fun _ _ => rfl) rfl (by exact cl_v my_38 rfl rfl rfl (Nat.le_of_ble_eq_true rfl) rfl (MH_obj rfl rfl) rfl (by decide) rfl rfl) (by rfl) (Nat.le_of_ble_eq_true rfl) (Nat.le_of_ble_eq_true rfl) rfl (by rfl) ?_
  refine w_p (pc1 := 136) rfl rfl ?_
  refine w_p (pc1 := 137) rfl rfl ?_
  refine w_m0 (pc1 := 140) rfl rfl (h_gI (j := 8) rfl rfl rfl rfl rfl) rfl ?_
  refine w_ji (pc1 := 143) (vs := [.ref 121, _]) (rest := []) (m_65n (d := d + 4) (sl := 0) F2.1 hn3) rfl rfl rfl (fun _ _ => rfl) rfl (by exact cl_v my_65 rfl rfl rfl (Nat.le_of_ble_eq_true rfl) rfl (MH_obj rfl rfl) rfl (by decide) rfl rfl) (by rfl) (Nat.le_of_ble_eq_true rfl) (Nat.le_of_ble_eq_true rfl) rfl (fun v h1 d1 hq => ?_) (fun a h1 d1 hq => ?_)
  · exact hq.elim
  · rcases hq with ⟨ha, hh, hn⟩
    · subst ha; subst hh; subst hn
      refine Or.inl ⟨ch_new (by decide) rfl, ?_⟩
      exact X_up F2.2.2.2.2.2.2.2 F2.1 ⟨rfl, rfl, rfl⟩
set_option maxRecDepth 100000 in
theorem fd_un (F : FK B n m C0 C s) {b w : Nat} (hb : b < 6) (hw : w ≤ 6) (ht : C0.1 21 8 = nI b) (h8 : C0.1 8 b = nI w) (hk : kd B n s.1 = 28) (hx : C0.1 21 8 ≠ -1) (hv : C0.1 21 9 ≠ 0) (hd : kd B n (s.1 + 1) = 49) (hn3 : kd B n (s.1 + 2) = 3) (hg : fnd (fun j => decide (C0.2.1 9 (b * 6 + j) = vl B n (s.1 + 2))) w 0 = -1) (hc : c = 4) (hi : i = s.1 + 2) : Wd L xs (d + 12) y_64 (0, [(0, .ref 121)], [], MH C t, 0) nP (XFK B n m C0 t 0 c i) := by
  subst hc
  subst hi
  have hk1 := (kne hk (by decide) (by decide)).1
  have hk2 := (kne hk (by decide) (by decide)).2
  have F1 := FK_n F hk1 hk2
  have hd1 := (kne hd (by decide) (by decide)).1
  have hd2 := (kne hd (by decide) (by decide)).2
  have F2 := FK_n F1 hd1 hd2
  refine w_p (pc1 := 1) (st1 := .int 0 :: _) rfl rfl ?_
  refine w_p (pc1 := 2) (al1 := [(2, .int 0), (0, .ref 121)]) rfl rfl ?_
  refine w_m0 (pc1 := 5) (st1 := .ref 61 :: _) rfl rfl rfl rfl ?_
  refine w_p (pc1 := 6) rfl rfl ?_
  refine w_m0 (pc1 := 9) rfl rfl (h_gC rfl rfl rfl rfl) rfl ?_
  refine w_m0 (pc1 := 12) (st1 := .ref 28 :: _) rfl rfl (h_gRs (j := 6) rfl rfl rfl rfl rfl (by rw [tkS_tok F.1, hk])) rfl ?_
  refine w_c (pc1 := 15) rfl rfl rfl (fun fr lo h1 h2 => n_or rfl (by decide) (by decide) h1 h2) rfl ?_
  refine w_m0 (pc1 := 16) rfl rfl (rfl) rfl ?_
  refine w_p (pc1 := 85) rfl rfl ?_
  refine w_p (pc1 := 86) rfl rfl ?_
  refine w_m0 (pc1 := 89) rfl rfl (h_gC rfl rfl rfl rfl) rfl ?_
  refine w_m0 (pc1 := 92) (st1 := .ref 28 :: _) rfl rfl (h_gRs (j := 6) rfl rfl rfl rfl rfl (by rw [tkS_tok F.1, hk])) rfl ?_
  refine w_m0 (pc1 := 95) (st1 := .ref 24 :: _) rfl rfl rfl rfl ?_
  refine w_t (a := 102) (b := 98) rfl rfl rfl ?_
  refine w_p (pc1 := 103) (st1 := .int 4 :: _) rfl rfl ?_
  refine w_p (pc1 := 104) (al1 := [(1, .int 4), (2, .int 0), (0, .ref 121)]) rfl rfl ?_
  refine w_p (pc1 := 105) rfl rfl ?_
  refine w_p (pc1 := 106) rfl rfl ?_
  refine w_p (pc1 := 107) (st1 := .int 3 :: _) rfl rfl ?_
  refine w_t (a := 114) (b := 110) rfl rfl rfl ?_
  refine w_p (pc1 := 115) (st1 := .int 0 :: _) rfl rfl ?_
  refine w_je (pc1 := 118) (vs := [.ref 121, .int 0]) (rest := []) (st1 := []) (m_66y (d := _) (sl := 0) (by rw [fr_f F (by omega)]; exact hx) (by rw [fr_f F (by omega)]; exact hv)) rfl rfl rfl (fun _ _ => rfl) rfl (by exact cl_v my_66 rfl rfl rfl (Nat.le_of_ble_eq_true rfl) rfl (MH_obj rfl rfl) rfl (by decide) rfl rfl) (by rfl) (Nat.le_of_ble_eq_true rfl) (Nat.le_of_ble_eq_true rfl) rfl (by rfl) ?_
  refine w_p (pc1 := 119) rfl rfl ?_
  refine w_m0 (pc1 := 122) rfl rfl (h_gC rfl rfl rfl rfl) rfl ?_
  refine w_je (pc1 := 125) (vs := [.ref 101]) (rest := []) (st1 := []) (m_21s (d := _) (sl := 0) F.1 hk1 hk2) rfl rfl rfl (fun _ _ => rfl) rfl (by exact cl_v my_21 rfl rfl rfl (Nat.le_of_ble_eq_true rfl) rfl (MH_obj rfl rfl) rfl (by decide) rfl rfl) (by rfl) (Nat.le_of_ble_eq_true rfl) (Nat.le_of_ble_eq_true rfl) rfl (by rfl) ?_
  refine w_p (pc1 := 126) rfl rfl ?_
  refine w_m0 (pc1 := 129) rfl rfl (h_gC rfl rfl rfl rfl) rfl ?_
  refine w_m0 (pc1 := 132) (st1 := .ref 49 :: _) rfl rfl rfl rfl ?_
  refine w_je (pc1 := 135) (vs := [.ref 101, .ref 49]) (rest := []) (st1 := []) (m_38y (d := _) (sl := 0) F1.1 (by decide) hd (by decide) (by decide)) rfl rfl rfl (fun _ _ => rfl) rfl (by exact cl_v my_38 rfl rfl rfl (Nat.le_of_ble_eq_true rfl) rfl (MH_obj rfl rfl) rfl (by decide) rfl rfl) (by rfl) (Nat.le_of_ble_eq_true rfl) (Nat.le_of_ble_eq_true rfl) rfl (by rfl) ?_
  refine w_p (pc1 := 136) rfl rfl ?_
  refine w_p (pc1 := 137) rfl rfl ?_
  refine w_m0 (pc1 := 140) (st1 := .int (nI (b)) :: _) rfl rfl (h_gIe (j := 8) rfl rfl rfl rfl rfl (by rw [fr_f F2 (by omega)]; exact ht)) rfl ?_
  refine w_ji (pc1 := 143) (vs := [.ref 121, .int (nI (b))]) (rest := []) (m_65c (d := d + 4) (sl := 0) F2.1 hb (fr_w F2 h8) hw hn3 (by rw [fr_col F2]; exact hg)) rfl rfl rfl (fun _ _ => rfl) rfl (by exact cl_v my_65 rfl rfl rfl (Nat.le_of_ble_eq_true rfl) rfl (MH_obj rfl rfl) rfl (by decide) rfl rfl) (by rfl) (Nat.le_of_ble_eq_true rfl) (Nat.le_of_ble_eq_true rfl) rfl (fun v h1 d1 hq => ?_) (fun a h1 d1 hq => ?_)
  · exact hq.elim
  · rcases hq with ⟨ha, hh, hn⟩
    · subst ha; subst hh; subst hn
      refine Or.inl ⟨ch_new (by decide) rfl, ?_⟩
      exact X_up F2.2.2.2.2.2.2.2 F2.1 ⟨rfl, rfl, rfl⟩
set_option maxRecDepth 100000 in
theorem fd_ok (F : FK B n m C0 C s) {b w : Nat} (hb : b < 6) (hw : w ≤ 6) (ht : C0.1 21 8 = nI b) (h8 : C0.1 8 b = nI w) (hk : kd B n s.1 = 28) (hx : C0.1 21 8 ≠ -1) (hv : C0.1 21 9 ≠ 0) (hd : kd B n (s.1 + 1) = 49) (hn3 : kd B n (s.1 + 2) = 3) (hg : fnd (fun j => decide (C0.2.1 9 (b * 6 + j) = vl B n (s.1 + 2))) w 0 ≠ -1) (h : lef (nxt (nxt s)) 4 (fnd (fun j => decide (C0.2.1 9 (b * 6 + j) = vl B n (s.1 + 2))) w 0) = .inr z) : Wd L xs (d + 12) y_64 (0, [(0, .ref 121)], [], MH C t, 0) (PFK B n m C0 t 0 z) nX := by
  have hk1 := (kne hk (by decide) (by decide)).1
  have hk2 := (kne hk (by decide) (by decide)).2
  have F1 := FK_n F hk1 hk2
  have hd1 := (kne hd (by decide) (by decide)).1
  have hd2 := (kne hd (by decide) (by decide)).2
  have F2 := FK_n F1 hd1 hd2
  rw [← fr_col F2] at hg h
  refine w_p (pc1 := 1) (st1 := .int 0 :: _) rfl rfl ?_
  refine w_p (pc1 := 2) (al1 := [(2, .int 0), (0, .ref 121)]) rfl rfl ?_
  refine w_m0 (pc1 := 5) (st1 := .ref 61 :: _) rfl rfl rfl rfl ?_
  refine w_p (pc1 := 6) rfl rfl ?_
  refine w_m0 (pc1 := 9) rfl rfl (h_gC rfl rfl rfl rfl) rfl ?_
  refine w_m0 (pc1 := 12) (st1 := .ref 28 :: _) rfl rfl (h_gRs (j := 6) rfl rfl rfl rfl rfl (by rw [tkS_tok F.1, hk])) rfl ?_
  refine w_c (pc1 := 15) rfl rfl rfl (fun fr lo h1 h2 => n_or rfl (by decide) (by decide) h1 h2) rfl ?_
  refine w_m0 (pc1 := 16) rfl rfl (rfl) rfl ?_
  refine w_p (pc1 := 85) rfl rfl ?_
  refine w_p (pc1 := 86) rfl rfl ?_
  refine w_m0 (pc1 := 89) rfl rfl (h_gC rfl rfl rfl rfl) rfl ?_
  refine w_m0 (pc1 := 92) (st1 := .ref 28 :: _) rfl rfl (h_gRs (j := 6) rfl rfl rfl rfl rfl (by rw [tkS_tok F.1, hk])) rfl ?_
  refine w_m0 (pc1 := 95) (st1 := .ref 24 :: _) rfl rfl rfl rfl ?_
  refine w_t (a := 102) (b := 98) rfl rfl rfl ?_
  refine w_p (pc1 := 103) (st1 := .int 4 :: _) rfl rfl ?_
  refine w_p (pc1 := 104) (al1 := [(1, .int 4), (2, .int 0), (0, .ref 121)]) rfl rfl ?_
  refine w_p (pc1 := 105) rfl rfl ?_
  refine w_p (pc1 := 106) rfl rfl ?_
  refine w_p (pc1 := 107) (st1 := .int 3 :: _) rfl rfl ?_
  refine w_t (a := 114) (b := 110) rfl rfl rfl ?_
  refine w_p (pc1 := 115) (st1 := .int 0 :: _) rfl rfl ?_
  refine w_je (pc1 := 118) (vs := [.ref 121, .int 0]) (rest := []) (st1 := []) (m_66y (d := _) (sl := 0) (by rw [fr_f F (by omega)]; exact hx) (by rw [fr_f F (by omega)]; exact hv)) rfl rfl rfl (fun _ _ => rfl) rfl (by exact cl_v my_66 rfl rfl rfl (Nat.le_of_ble_eq_true rfl) rfl (MH_obj rfl rfl) rfl (by decide) rfl rfl) (by rfl) (Nat.le_of_ble_eq_true rfl) (Nat.le_of_ble_eq_true rfl) rfl (by rfl) ?_
  refine w_p (pc1 := 119) rfl rfl ?_
  refine w_m0 (pc1 := 122) rfl rfl (h_gC rfl rfl rfl rfl) rfl ?_
  refine w_je (pc1 := 125) (vs := [.ref 101]) (rest := []) (st1 := []) (m_21s (d := _) (sl := 0) F.1 hk1 hk2) rfl rfl rfl (fun _ _ => rfl) rfl (by exact cl_v my_21 rfl rfl rfl (Nat.le_of_ble_eq_true rfl) rfl (MH_obj rfl rfl) rfl (by decide) rfl rfl) (by rfl) (Nat.le_of_ble_eq_true rfl) (Nat.le_of_ble_eq_true rfl) rfl (by rfl) ?_
  refine w_p (pc1 := 126) rfl rfl ?_
  refine w_m0 (pc1 := 129) rfl rfl (h_gC rfl rfl rfl rfl) rfl ?_
  refine w_m0 (pc1 := 132) (st1 := .ref 49 :: _) rfl rfl rfl rfl ?_
  refine w_je (pc1 := 135) (vs := [.ref 101, .ref 49]) (rest := []) (st1 := []) (m_38y (d := _) (sl := 0) F1.1 (by decide) hd (by decide) (by decide)) rfl rfl rfl (fun _ _ => rfl) rfl (by exact cl_v my_38 rfl rfl rfl (Nat.le_of_ble_eq_true rfl) rfl (MH_obj rfl rfl) rfl (by decide) rfl rfl) (by rfl) (Nat.le_of_ble_eq_true rfl) (Nat.le_of_ble_eq_true rfl) rfl (by rfl) ?_
  refine w_p (pc1 := 136) rfl rfl ?_
  refine w_p (pc1 := 137) rfl rfl ?_
  refine w_m0 (pc1 := 140) (st1 := .int (nI (b)) :: _) rfl rfl (h_gIe (j := 8) rfl rfl rfl rfl rfl (by rw [fr_f F2 (by omega)]; exact ht)) rfl ?_
  refine w_je (pc1 := 143) (vs := [.ref 121, .int (nI (b))]) (rest := []) (st1 := [.int (fnd (fun j => decide ((nxT B n (nxT B n C s.1) (s.1 + 1)).2.1 9 (b * 6 + j) = vl B n (s.1 + 2))) w 0)]) (m_65y (d := _) (sl := 0) F2.1 hb (fr_w F2 h8) hw hn3 hg) rfl rfl rfl (fun _ _ => rfl) rfl (by exact cl_v my_65 rfl rfl rfl (Nat.le_of_ble_eq_true rfl) rfl (MH_obj rfl rfl) rfl (by decide) rfl rfl) (by rfl) (Nat.le_of_ble_eq_true rfl) (Nat.le_of_ble_eq_true rfl) rfl (by rfl) ?_
  refine w_p (pc1 := 144) (al1 := [(2, .int (fnd (fun j => decide ((nxT B n (nxT B n C s.1) (s.1 + 1)).2.1 9 (b * 6 + j) = vl B n (s.1 + 2))) w 0)), (1, .int 4), (0, .ref 121)]) rfl rfl ?_
  refine w_p (pc1 := 152) rfl rfl ?_
  exact lf_ok1 (d := d + 11) F2 (kne hn3 (by decide) (by decide)).1 (kne hn3 (by decide) (by decide)).2 h
set_option maxRecDepth 100000 in
theorem fd_er (F : FK B n m C0 C s) {b w : Nat} (hb : b < 6) (hw : w ≤ 6) (ht : C0.1 21 8 = nI b) (h8 : C0.1 8 b = nI w) (hk : kd B n s.1 = 28) (hx : C0.1 21 8 ≠ -1) (hv : C0.1 21 9 ≠ 0) (hd : kd B n (s.1 + 1) = 49) (hn3 : kd B n (s.1 + 2) = 3) (hg : fnd (fun j => decide (C0.2.1 9 (b * 6 + j) = vl B n (s.1 + 2))) w 0 ≠ -1) (h : lef (nxt (nxt s)) 4 (fnd (fun j => decide (C0.2.1 9 (b * 6 + j) = vl B n (s.1 + 2))) w 0) = .inl (c, i)) : Wd L xs (d + 12) y_64 (0, [(0, .ref 121)], [], MH C t, 0) nP (XFK B n m C0 t 0 c i) := by
  have hk1 := (kne hk (by decide) (by decide)).1
  have hk2 := (kne hk (by decide) (by decide)).2
  have F1 := FK_n F hk1 hk2
  have hd1 := (kne hd (by decide) (by decide)).1
  have hd2 := (kne hd (by decide) (by decide)).2
  have F2 := FK_n F1 hd1 hd2
  rw [← fr_col F2] at hg h
  refine w_p (pc1 := 1) (st1 := .int 0 :: _) rfl rfl ?_
  refine w_p (pc1 := 2) (al1 := [(2, .int 0), (0, .ref 121)]) rfl rfl ?_
  refine w_m0 (pc1 := 5) (st1 := .ref 61 :: _) rfl rfl rfl rfl ?_
  refine w_p (pc1 := 6) rfl rfl ?_
  refine w_m0 (pc1 := 9) rfl rfl (h_gC rfl rfl rfl rfl) rfl ?_
  refine w_m0 (pc1 := 12) (st1 := .ref 28 :: _) rfl rfl (h_gRs (j := 6) rfl rfl rfl rfl rfl (by rw [tkS_tok F.1, hk])) rfl ?_
  refine w_c (pc1 := 15) rfl rfl rfl (fun fr lo h1 h2 => n_or rfl (by decide) (by decide) h1 h2) rfl ?_
  refine w_m0 (pc1 := 16) rfl rfl (rfl) rfl ?_
  refine w_p (pc1 := 85) rfl rfl ?_
  refine w_p (pc1 := 86) rfl rfl ?_
  refine w_m0 (pc1 := 89) rfl rfl (h_gC rfl rfl rfl rfl) rfl ?_
  refine w_m0 (pc1 := 92) (st1 := .ref 28 :: _) rfl rfl (h_gRs (j := 6) rfl rfl rfl rfl rfl (by rw [tkS_tok F.1, hk])) rfl ?_
  refine w_m0 (pc1 := 95) (st1 := .ref 24 :: _) rfl rfl rfl rfl ?_
  refine w_t (a := 102) (b := 98) rfl rfl rfl ?_
  refine w_p (pc1 := 103) (st1 := .int 4 :: _) rfl rfl ?_
  refine w_p (pc1 := 104) (al1 := [(1, .int 4), (2, .int 0), (0, .ref 121)]) rfl rfl ?_
  refine w_p (pc1 := 105) rfl rfl ?_
  refine w_p (pc1 := 106) rfl rfl ?_
  refine w_p (pc1 := 107) (st1 := .int 3 :: _) rfl rfl ?_
  refine w_t (a := 114) (b := 110) rfl rfl rfl ?_
  refine w_p (pc1 := 115) (st1 := .int 0 :: _) rfl rfl ?_
  refine w_je (pc1 := 118) (vs := [.ref 121, .int 0]) (rest := []) (st1 := []) (m_66y (d := _) (sl := 0) (by rw [fr_f F (by omega)]; exact hx) (by rw [fr_f F (by omega)]; exact hv)) rfl rfl rfl (fun _ _ => rfl) rfl (by exact cl_v my_66 rfl rfl rfl (Nat.le_of_ble_eq_true rfl) rfl (MH_obj rfl rfl) rfl (by decide) rfl rfl) (by rfl) (Nat.le_of_ble_eq_true rfl) (Nat.le_of_ble_eq_true rfl) rfl (by rfl) ?_
  refine w_p (pc1 := 119) rfl rfl ?_
  refine w_m0 (pc1 := 122) rfl rfl (h_gC rfl rfl rfl rfl) rfl ?_
  refine w_je (pc1 := 125) (vs := [.ref 101]) (rest := []) (st1 := []) (m_21s (d := _) (sl := 0) F.1 hk1 hk2) rfl rfl rfl (fun _ _ => rfl) rfl (by exact cl_v my_21 rfl rfl rfl (Nat.le_of_ble_eq_true rfl) rfl (MH_obj rfl rfl) rfl (by decide) rfl rfl) (by rfl) (Nat.le_of_ble_eq_true rfl) (Nat.le_of_ble_eq_true rfl) rfl (by rfl) ?_
  refine w_p (pc1 := 126) rfl rfl ?_
  refine w_m0 (pc1 := 129) rfl rfl (h_gC rfl rfl rfl rfl) rfl ?_
  refine w_m0 (pc1 := 132) (st1 := .ref 49 :: _) rfl rfl rfl rfl ?_
  refine w_je (pc1 := 135) (vs := [.ref 101, .ref 49]) (rest := []) (st1 := []) (m_38y (d := _) (sl := 0) F1.1 (by decide) hd (by decide) (by decide)) rfl rfl rfl (fun _ _ => rfl) rfl (by exact cl_v my_38 rfl rfl rfl (Nat.le_of_ble_eq_true rfl) rfl (MH_obj rfl rfl) rfl (by decide) rfl rfl) (by rfl) (Nat.le_of_ble_eq_true rfl) (Nat.le_of_ble_eq_true rfl) rfl (by rfl) ?_
  refine w_p (pc1 := 136) rfl rfl ?_
  refine w_p (pc1 := 137) rfl rfl ?_
  refine w_m0 (pc1 := 140) (st1 := .int (nI (b)) :: _) rfl rfl (h_gIe (j := 8) rfl rfl rfl rfl rfl (by rw [fr_f F2 (by omega)]; exact ht)) rfl ?_
  refine w_je (pc1 := 143) (vs := [.ref 121, .int (nI (b))]) (rest := []) (st1 := [.int (fnd (fun j => decide ((nxT B n (nxT B n C s.1) (s.1 + 1)).2.1 9 (b * 6 + j) = vl B n (s.1 + 2))) w 0)]) (m_65y (d := _) (sl := 0) F2.1 hb (fr_w F2 h8) hw hn3 hg) rfl rfl rfl (fun _ _ => rfl) rfl (by exact cl_v my_65 rfl rfl rfl (Nat.le_of_ble_eq_true rfl) rfl (MH_obj rfl rfl) rfl (by decide) rfl rfl) (by rfl) (Nat.le_of_ble_eq_true rfl) (Nat.le_of_ble_eq_true rfl) rfl (by rfl) ?_
  refine w_p (pc1 := 144) (al1 := [(2, .int (fnd (fun j => decide ((nxT B n (nxT B n C s.1) (s.1 + 1)).2.1 9 (b * 6 + j) = vl B n (s.1 + 2))) w 0)), (1, .int 4), (0, .ref 121)]) rfl rfl ?_
  refine w_p (pc1 := 152) rfl rfl ?_
  exact lf_er1 (d := d + 4) F2 h
end FAC
