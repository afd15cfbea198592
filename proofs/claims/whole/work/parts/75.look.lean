/-! THE TAPE BEHIND THE SCAN: the token that is looked at, the step to the next, the refusal -/
set_option maxRecDepth 100000 in
theorem nK_m1 {b : Nat} (h : b < 2147483648) : nI b ≠ -1 := by
  intro e
  have := congrArg Int32.toInt e
  rw [nK_int h] at this
  have h2 : (-1 : Int32).toInt = -1 := rfl
  rw [h2] at this
  omega
section TKS
variable {L : Nat} {xs : Nat → Int32} {C : co_T} {t : ab_H} {d sl n m i w : Nat} {B : Nat → Nat}
def tkS (B : Nat → Nat) (n m : Nat) (C : co_T) (i : Nat) : Prop := tpK C B n ∧ lst B n m ∧ scP B n C m ∧ i ≤ m ∧ C.1 1 5 = nI i ∧ C.2.2 1 6 = some (kd B n i) ∧ C.1 1 7 = nI (tkA B n i) ∧ C.2.1 1 8 = vl B n i
set_option maxRecDepth 100000 in
theorem tkS_tok (S : tkS B n m C i) : C.2.2 1 6 = some (kd B n i) := S.2.2.2.2.2.1
set_option maxRecDepth 100000 in
theorem tkS_pl (S : tkS B n m C i) : C.1 1 7 = nI (tkA B n i) := S.2.2.2.2.2.2.1
set_option maxRecDepth 100000 in
theorem tkS_v (S : tkS B n m C i) : C.2.1 1 8 = vl B n i := S.2.2.2.2.2.2.2
set_option maxRecDepth 100000 in
theorem tkS_600 (S : tkS B n m C i) : m ≤ 600 := Nat.le_trans (lst_le S.2.1) S.1.2.1
/-! the step -/
def nxT (B : Nat → Nat) (n : Nat) (C : co_T) (i : Nat) : co_T := nxC C (i + 1) (kd B n (i + 1))
set_option maxRecDepth 100000 in
theorem tkS_lt (S : tkS B n m C i) (h1 : kd B n i ≠ 1) (h2 : kd B n i ≠ 2) : i < m := by
  by_cases h : i = m
  · subst h
    rcases S.2.1.2 with z | z <;> contradiction
  · have := S.2.2.2.1
    omega
set_option maxRecDepth 100000 in
theorem nxT_S (S : tkS B n m C i) (h1 : kd B n i ≠ 1) (h2 : kd B n i ≠ 2) : tkS B n m (nxT B n C i) (i + 1) := by
  have hl := tkS_lt S h1 h2
  have hp := S.2.2.1 (i + 1) (by omega)
  refine ⟨S.1, S.2.1, S.2.2.1, hl, rfl, rfl, hp.2.1, hp.2.2⟩
/-! only the token that is looked at changes -/
def frN (C C' : co_T) : Prop := (∀ k j, ¬ (k = 1 ∧ (j = 5 ∨ j = 7)) → C'.1 k j = C.1 k j) ∧ (∀ k j, ¬ (k = 1 ∧ j = 8) → C'.2.1 k j = C.2.1 k j) ∧ (∀ k j, ¬ (k = 1 ∧ j = 6) → C'.2.2 k j = C.2.2 k j)
set_option maxRecDepth 100000 in
theorem nxT_fr : frN C (nxT B n C i) := by
  unfold nxT nxC
  refine ⟨fun k j h => ?_, fun k j h => ?_, fun k j h => ?_⟩
  · rw [sJ_1, sI_1, if_neg (by omega), sQ_1, sI_1, if_neg (by omega)]
  · rw [sJ_2, if_neg h]
    rfl
  · rw [sJ_3, sI_2, sQ_3, if_neg h]
    rfl
set_option maxRecDepth 100000 in
theorem m_21s (S : tkS B n m C i) (h1 : kd B n i ≠ 1) (h2 : kd B n i ≠ 2) : Wd L xs d y_21 (0, [(0, .ref 101)], [], MH C t, sl) (Rt none (MH (nxT B n C i) t) sl) nX := by
  have hl := tkS_lt S h1 h2
  have h6 := tkS_600 S
  exact m_21 (by rw [S.2.2.2.2.1, nK_1]) (by omega) (S.2.2.1 (i + 1) (by omega)).1
/-! the refusal -/
def rfC (B : Nat → Nat) (n : Nat) (C : co_T) (i : Nat) (c : Int32) : co_T := sI (sI C 1 9 (if kd B n i = 1 then 1 else c)) 1 10 (nI (tkA B n i))
set_option maxRecDepth 100000 in
theorem m_31 {c : Int32} (S : tkS B n m C i) : Wd L xs (d + 6) y_31 (0, [(0, .ref 101), (1, .int c)], [], MH C t, sl) nP (Xk 12 (rfC B n C i c) t sl) := by
  unfold rfC
  by_cases hb : kd B n i = 1
  · rw [if_pos hb]
    refine w_p (pc1 := 1) rfl rfl ?_
    refine w_p (pc1 := 2) rfl rfl ?_
    refine w_m0 (pc1 := 5) (st1 := .ref (kd B n i) :: _) rfl rfl (h_gRs rfl rfl rfl rfl rfl (tkS_tok S)) rfl ?_
    refine w_m0 (pc1 := 8) (st1 := .ref 1 :: _) rfl rfl rfl rfl ?_
    refine w_an_y (A := 15) (Bn := 11) (ok_kd) (by decide) (hb) rfl rfl rfl ?_
    refine w_p (pc1 := 12) (st1 := .int 1 :: _) rfl rfl ?_
    refine w_p (pc1 := 16) rfl rfl ?_
    refine w_m0 (pc1 := 19) rfl rfl (h_pI (j := 9) rfl rfl rfl rfl rfl rfl rfl ⟨rfl, rfl⟩ rfl) rfl ?_
    refine w_p (pc1 := 20) rfl rfl ?_
    refine w_p (pc1 := 21) rfl rfl ?_
    refine w_m0 (pc1 := 24) (st1 := .int (nI (tkA B n i)) :: _) rfl rfl (h_gIe rfl rfl rfl rfl rfl (tkS_pl S)) rfl ?_
    refine w_m0 (pc1 := 27) rfl rfl (h_pI (j := 10) rfl rfl rfl rfl rfl rfl rfl ⟨rfl, rfl⟩ rfl) rfl ?_
    refine w_x (ci := 12) rfl rfl rfl (fun _ _ => rfl) rfl rfl (fun fr lo h1 h2 => cx_ok h1 h2 rfl) (by exact ch_thr (by decide) rfl) ?_
    exact Xk_i
  · rw [if_neg hb]
    refine w_p (pc1 := 1) rfl rfl ?_
    refine w_p (pc1 := 2) rfl rfl ?_
    refine w_m0 (pc1 := 5) (st1 := .ref (kd B n i) :: _) rfl rfl (h_gRs rfl rfl rfl rfl rfl (tkS_tok S)) rfl ?_
    refine w_m0 (pc1 := 8) (st1 := .ref 1 :: _) rfl rfl rfl rfl ?_
    refine w_an_n (A := 15) (ok_kd) (by decide) (hb) rfl rfl ?_
    refine w_p (pc1 := 16) rfl rfl ?_
    refine w_m0 (pc1 := 19) rfl rfl (h_pI (j := 9) rfl rfl rfl rfl rfl rfl rfl ⟨rfl, rfl⟩ rfl) rfl ?_
    refine w_p (pc1 := 20) rfl rfl ?_
    refine w_p (pc1 := 21) rfl rfl ?_
    refine w_m0 (pc1 := 24) (st1 := .int (nI (tkA B n i)) :: _) rfl rfl (h_gIe rfl rfl rfl rfl rfl (tkS_pl S)) rfl ?_
    refine w_m0 (pc1 := 27) rfl rfl (h_pI (j := 10) rfl rfl rfl rfl rfl rfl rfl ⟨rfl, rfl⟩ rfl) rfl ?_
    refine w_x (ci := 12) rfl rfl rfl (fun _ _ => rfl) rfl rfl (fun fr lo h1 h2 => cx_ok h1 h2 rfl) (by exact ch_thr (by decide) rfl) ?_
    exact Xk_i
set_option maxRecDepth 100000 in
theorem m_38y (S : tkS B n m C i) (hw : ab_ok w = true) (hk : kd B n i = w) (h1 : w ≠ 1) (h2 : w ≠ 2) : Wd L xs (d + 1) y_38 (0, [(0, .ref 101), (1, .ref w)], [], MH C t, sl) (Rt none (MH (nxT B n C i) t) sl) nX := by
  refine w_p (pc1 := 1) rfl rfl ?_
  refine w_m0 (pc1 := 4) (st1 := .ref (kd B n i) :: _) rfl rfl (h_gRs rfl rfl rfl rfl rfl (tkS_tok S)) rfl ?_
  refine w_p (pc1 := 5) rfl rfl ?_
  refine w_ae_y (A := 13) (ok_kd) (hw) (hk) rfl rfl ?_
  refine w_p (pc1 := 14) rfl rfl ?_
  refine w_je (pc1 := 17) (vs := [.ref 101]) (rest := []) (st1 := []) (m_21s (d := _) (sl := 0) S (by rw [hk]; exact h1) (by rw [hk]; exact h2)) rfl rfl rfl (fun _ _ => rfl) rfl (by exact cl_v my_21 rfl rfl rfl (Nat.le_of_ble_eq_true rfl) rfl (MH_obj rfl rfl) rfl (by decide) rfl rfl) (by rfl) (Nat.le_of_ble_eq_true rfl) (Nat.le_of_ble_eq_true rfl) rfl (by rfl) ?_
  refine w_r rfl rfl rfl (fun _ _ => rfl) rfl ?_
  exact ⟨rfl, rfl, rfl⟩
set_option maxRecDepth 100000 in
theorem m_38n (S : tkS B n m C i) (hw : ab_ok w = true) (hk : kd B n i ≠ w) : Wd L xs (d + 7) y_38 (0, [(0, .ref 101), (1, .ref w)], [], MH C t, sl) nP (Xk 12 (rfC B n C i 2) t sl) := by
  refine w_p (pc1 := 1) rfl rfl ?_
  refine w_m0 (pc1 := 4) (st1 := .ref (kd B n i) :: _) rfl rfl (h_gRs rfl rfl rfl rfl rfl (tkS_tok S)) rfl ?_
  refine w_p (pc1 := 5) rfl rfl ?_
  refine w_ae_n (A := 13) (Bn := 8) (ok_kd) (hw) (hk) rfl rfl rfl ?_
  refine w_p (pc1 := 9) rfl rfl ?_
  refine w_p (pc1 := 10) (st1 := .int 2 :: _) rfl rfl ?_
  refine w_ji (pc1 := 13) (vs := [.ref 101, .int 2]) (rest := []) (m_31 (d := d) (sl := 0) S) rfl rfl rfl (fun _ _ => rfl) rfl (by exact cl_v my_31 rfl rfl rfl (Nat.le_of_ble_eq_true rfl) rfl (MH_obj rfl rfl) rfl (by decide) rfl rfl) (by rfl) (Nat.le_of_ble_eq_true rfl) (Nat.le_of_ble_eq_true rfl) rfl (fun v h1 d1 hq => ?_) (fun a h1 d1 hq => ?_)
  · exact hq.elim
  · rcases hq with ⟨ha, hh, hn⟩
    · subst ha; subst hh; subst hn
      refine Or.inl ⟨ch_new (by decide) rfl, ?_⟩
      exact ⟨rfl, rfl, rfl⟩
set_option maxRecDepth 100000 in
theorem m_44y (S : tkS B n m C i) (hw : ab_ok w = true) (hk : kd B n i = w) (h1 : w ≠ 1) (h2 : w ≠ 2) : Wd L xs (d + 1) y_44 (0, [(0, .ref 101), (1, .ref w)], [], MH C t, sl) (Rt (some (.int 1)) (MH (nxT B n C i) t) sl) nX := by
  refine w_p (pc1 := 1) rfl rfl ?_
  refine w_m0 (pc1 := 4) (st1 := .ref (kd B n i) :: _) rfl rfl (h_gRs rfl rfl rfl rfl rfl (tkS_tok S)) rfl ?_
  refine w_p (pc1 := 5) rfl rfl ?_
  refine w_ae_y (A := 10) (ok_kd) (hw) (hk) rfl rfl ?_
  refine w_p (pc1 := 11) rfl rfl ?_
  refine w_je (pc1 := 14) (vs := [.ref 101]) (rest := []) (st1 := []) (m_21s (d := _) (sl := 0) S (by rw [hk]; exact h1) (by rw [hk]; exact h2)) rfl rfl rfl (fun _ _ => rfl) rfl (by exact cl_v my_21 rfl rfl rfl (Nat.le_of_ble_eq_true rfl) rfl (MH_obj rfl rfl) rfl (by decide) rfl rfl) (by rfl) (Nat.le_of_ble_eq_true rfl) (Nat.le_of_ble_eq_true rfl) rfl (by rfl) ?_
  refine w_p (pc1 := 15) (st1 := .int 1 :: _) rfl rfl ?_
  refine w_r rfl rfl rfl (fun _ _ => rfl) rfl ?_
  exact ⟨rfl, rfl, rfl⟩
set_option maxRecDepth 100000 in
theorem m_44n (S : tkS B n m C i) (hw : ab_ok w = true) (hk : kd B n i ≠ w) : Wd L xs d y_44 (0, [(0, .ref 101), (1, .ref w)], [], MH C t, sl) (Rt (some (.int 0)) (MH C t) sl) nX := by
  refine w_p (pc1 := 1) rfl rfl ?_
  refine w_m0 (pc1 := 4) (st1 := .ref (kd B n i) :: _) rfl rfl (h_gRs rfl rfl rfl rfl rfl (tkS_tok S)) rfl ?_
  refine w_p (pc1 := 5) rfl rfl ?_
  refine w_ae_n (A := 10) (Bn := 8) (ok_kd) (hw) (hk) rfl rfl rfl ?_
  refine w_p (pc1 := 9) (st1 := .int 0 :: _) rfl rfl ?_
  refine w_r rfl rfl rfl (fun _ _ => rfl) rfl ?_
  exact ⟨rfl, rfl, rfl⟩
set_option maxRecDepth 100000 in
theorem m_59y {q : Nat} (ho : C.1 21 5 = nI q) (hq : q < 10) : Wd L xs d y_59 (0, [(0, .ref 121)], [], MH C t, sl) (Rt none (MH (sI C 21 5 (nI (q + 1))) t) sl) nX := by
  refine w_p (pc1 := 1) rfl rfl ?_
  refine w_m0 (pc1 := 4) (st1 := .int (nI (q)) :: _) rfl rfl (h_gIe rfl rfl rfl rfl rfl (ho)) rfl ?_
  refine w_p (pc1 := 6) (st1 := .int 10 :: _) rfl rfl ?_
  refine w_t (a := 18) (b := 9) (bN_lt_t (a := q) (b := 10) (by omega) (by omega) (by omega)) rfl rfl ?_
  refine w_p (pc1 := 19) rfl rfl ?_
  refine w_p (pc1 := 20) rfl rfl ?_
  refine w_m0 (pc1 := 23) (st1 := .int (nI (q)) :: _) rfl rfl (h_gIe rfl rfl rfl rfl rfl (ho)) rfl ?_
  refine w_p (pc1 := 24) (st1 := .int 1 :: _) rfl rfl ?_
  refine w_iadd (pc1 := 25) (u := nI (q)) (v := nI (1)) (z := nI (q + 1)) rfl (nK_add) rfl ?_
  refine w_m0 (pc1 := 28) rfl rfl (h_pI (j := 5) rfl rfl rfl rfl rfl rfl rfl ⟨rfl, rfl⟩ rfl) rfl ?_
  refine w_r rfl rfl rfl (fun _ _ => rfl) rfl ?_
  exact ⟨rfl, rfl, rfl⟩
set_option maxRecDepth 100000 in
theorem m_59n {q : Nat} (S : tkS B n m C i) (ho : C.1 21 5 = nI q) (hq : 10 ≤ q) (hq2 : q ≤ 10) : Wd L xs (d + 7) y_59 (0, [(0, .ref 121)], [], MH C t, sl) nP (Xk 12 (rfC B n C i 6) t sl) := by
  refine w_p (pc1 := 1) rfl rfl ?_
  refine w_m0 (pc1 := 4) (st1 := .int (nI (q)) :: _) rfl rfl (h_gIe rfl rfl rfl rfl rfl (ho)) rfl ?_
  refine w_p (pc1 := 6) (st1 := .int 10 :: _) rfl rfl ?_
  refine w_f (a := 18) (b := 9) (bN_lt_f (a := q) (b := 10) (by omega) (by omega) (by omega)) rfl rfl ?_
  refine w_p (pc1 := 10) rfl rfl ?_
  refine w_m0 (pc1 := 13) rfl rfl (h_gC rfl rfl rfl rfl) rfl ?_
  refine w_p (pc1 := 15) (st1 := .int 6 :: _) rfl rfl ?_
  refine w_ji (pc1 := 18) (vs := [.ref 101, .int 6]) (rest := []) (m_31 (d := d) (sl := 0) S) rfl rfl rfl (fun _ _ => rfl) rfl (by exact cl_v my_31 rfl rfl rfl (Nat.le_of_ble_eq_true rfl) rfl (MH_obj rfl rfl) rfl (by decide) rfl rfl) (by rfl) (Nat.le_of_ble_eq_true rfl) (Nat.le_of_ble_eq_true rfl) rfl (fun v h1 d1 hq => ?_) (fun a h1 d1 hq => ?_)
  · exact hq.elim
  · rcases hq with ⟨ha, hh, hn⟩
    · subst ha; subst hh; subst hn
      refine Or.inl ⟨ch_new (by decide) rfl, ?_⟩
      exact ⟨rfl, rfl, rfl⟩
set_option maxRecDepth 100000 in
theorem m_60m (ho : C.1 21 6 = -1) : Wd L xs d y_60 (0, [(0, .ref 121)], [], MH C t, sl) (Rt none (MH C t) sl) nX := by
  refine w_p (pc1 := 1) rfl rfl ?_
  refine w_m0 (pc1 := 4) (st1 := .int (-1) :: _) rfl rfl (h_gIe rfl rfl rfl rfl rfl (ho)) rfl ?_
  refine w_t (a := 16) (b := 7) rfl rfl rfl ?_
  refine w_p (pc1 := 17) rfl rfl ?_
  refine w_m0 (pc1 := 20) (st1 := .int (-1) :: _) rfl rfl (h_gIe rfl rfl rfl rfl rfl (ho)) rfl ?_
  refine w_t (a := 33) (b := 23) rfl rfl rfl ?_
  refine w_r rfl rfl rfl (fun _ _ => rfl) rfl ?_
  exact ⟨rfl, rfl, rfl⟩
set_option maxRecDepth 100000 in
theorem m_60s {q : Nat} (ho : C.1 21 6 = nI (q + 1)) (hq : q < 1000) : Wd L xs d y_60 (0, [(0, .ref 121)], [], MH C t, sl) (Rt none (MH (sI C 21 6 (nI q)) t) sl) nX := by
  refine w_p (pc1 := 1) rfl rfl ?_
  refine w_m0 (pc1 := 4) (st1 := .int (nI (q + 1)) :: _) rfl rfl (h_gIe rfl rfl rfl rfl rfl (ho)) rfl ?_
  refine w_t (a := 16) (b := 7) (bN_ne_t (a := q + 1) (b := 0) (by omega) (by omega) (by omega)) rfl rfl ?_
  refine w_p (pc1 := 17) rfl rfl ?_
  refine w_m0 (pc1 := 20) (st1 := .int (nI (q + 1)) :: _) rfl rfl (h_gIe rfl rfl rfl rfl rfl (ho)) rfl ?_
  refine w_f (a := 33) (b := 23) (bN_le_f (a := q + 1) (b := 0) (by omega) (by omega) (by omega)) rfl rfl ?_
  refine w_p (pc1 := 24) rfl rfl ?_
  refine w_p (pc1 := 25) rfl rfl ?_
  refine w_m0 (pc1 := 28) (st1 := .int (nI (q + 1)) :: _) rfl rfl (h_gIe rfl rfl rfl rfl rfl (ho)) rfl ?_
  refine w_p (pc1 := 29) (st1 := .int 1 :: _) rfl rfl ?_
  refine w_isub (pc1 := 30) (u := nI (q + 1)) (v := nI (1)) (z := nI (q + 1 - 1)) rfl (nK_sub (by omega)) rfl ?_
  refine w_m0 (pc1 := 33) rfl rfl (h_pI (j := 6) rfl rfl rfl rfl rfl rfl rfl ⟨rfl, rfl⟩ rfl) rfl ?_
  refine w_r rfl rfl rfl (fun _ _ => rfl) rfl ?_
  exact ⟨rfl, rfl, rfl⟩
set_option maxRecDepth 100000 in
theorem m_60z (S : tkS B n m C i) (ho : C.1 21 6 = 0) : Wd L xs (d + 7) y_60 (0, [(0, .ref 121)], [], MH C t, sl) nP (Xk 12 (rfC B n C i 6) t sl) := by
  refine w_p (pc1 := 1) rfl rfl ?_
  refine w_m0 (pc1 := 4) (st1 := .int 0 :: _) rfl rfl (h_gIe rfl rfl rfl rfl rfl (ho)) rfl ?_
  refine w_f (a := 16) (b := 7) rfl rfl rfl ?_
  refine w_p (pc1 := 8) rfl rfl ?_
  refine w_m0 (pc1 := 11) rfl rfl (h_gC rfl rfl rfl rfl) rfl ?_
  refine w_p (pc1 := 13) (st1 := .int 6 :: _) rfl rfl ?_
  refine w_ji (pc1 := 16) (vs := [.ref 101, .int 6]) (rest := []) (m_31 (d := d) (sl := 0) S) rfl rfl rfl (fun _ _ => rfl) rfl (by exact cl_v my_31 rfl rfl rfl (Nat.le_of_ble_eq_true rfl) rfl (MH_obj rfl rfl) rfl (by decide) rfl rfl) (by rfl) (Nat.le_of_ble_eq_true rfl) (Nat.le_of_ble_eq_true rfl) rfl (fun v h1 d1 hq => ?_) (fun a h1 d1 hq => ?_)
  · exact hq.elim
  · rcases hq with ⟨ha, hh, hn⟩
    · subst ha; subst hh; subst hn
      refine Or.inl ⟨ch_new (by decide) rfl, ?_⟩
      exact ⟨rfl, rfl, rfl⟩
def emC (C : co_T) (u : Nat) (a b : Int32) : co_T := sI (sI (sI C 22 u a) 23 u b) 21 4 (nI (u + 1))
set_option maxRecDepth 100000 in
theorem m_61 {u : Nat} {a b : Int32} (ho : C.1 21 4 = nI u) (hu : u < 600) : Wd L xs d y_61 (0, [(0, .ref 121), (1, .int a), (2, .int b)], [], MH C t, sl) (Rt none (MH (emC C u a b) t) sl) nX := by
  refine w_p (pc1 := 1) rfl rfl ?_
  refine w_m0 (pc1 := 4) (st1 := .int (nI (u)) :: _) rfl rfl (h_gIe rfl rfl rfl rfl rfl (ho)) rfl ?_
  refine w_f (a := 47) (b := 7) (bN_lt_f (a := u) (b := 0) (by omega) (by omega) (by omega)) rfl rfl ?_
  refine w_p (pc1 := 8) rfl rfl ?_
  refine w_m0 (pc1 := 11) (st1 := .int (nI (u)) :: _) rfl rfl (h_gIe rfl rfl rfl rfl rfl (ho)) rfl ?_
  refine w_p (pc1 := 14) (st1 := .int 600 :: _) rfl rfl ?_
  refine w_f (a := 47) (b := 17) (bN_ge_f (a := u) (b := 600) (by omega) (by omega) (by omega)) rfl rfl ?_
  refine w_p (pc1 := 18) rfl rfl ?_
  refine w_m0 (pc1 := 21) rfl rfl (h_gC rfl rfl rfl rfl) rfl ?_
  refine w_p (pc1 := 22) rfl rfl ?_
  refine w_m0 (pc1 := 25) (st1 := .int (nI (u)) :: _) rfl rfl (h_gIe rfl rfl rfl rfl rfl (ho)) rfl ?_
  refine w_p (pc1 := 26) rfl rfl ?_
  refine w_m0 (pc1 := 27) rfl rfl (n_is (e := u) rfl rfl rfl (by omega)) rfl ?_
  refine w_p (pc1 := 28) rfl rfl ?_
  refine w_m0 (pc1 := 31) rfl rfl (h_gC rfl rfl rfl rfl) rfl ?_
  refine w_p (pc1 := 32) rfl rfl ?_
  refine w_m0 (pc1 := 35) (st1 := .int (nI (u)) :: _) rfl rfl (h_gIe rfl rfl rfl rfl rfl (ho)) rfl ?_
  refine w_p (pc1 := 36) rfl rfl ?_
  refine w_m0 (pc1 := 37) rfl rfl (n_is (e := u) rfl rfl rfl (by omega)) rfl ?_
  refine w_p (pc1 := 38) rfl rfl ?_
  refine w_p (pc1 := 39) rfl rfl ?_
  refine w_m0 (pc1 := 42) (st1 := .int (nI (u)) :: _) rfl rfl (h_gIe rfl rfl rfl rfl rfl (ho)) rfl ?_
  refine w_p (pc1 := 43) (st1 := .int 1 :: _) rfl rfl ?_
  refine w_iadd (pc1 := 44) (u := nI (u)) (v := nI (1)) (z := nI (u + 1)) rfl (nK_add) rfl ?_
  refine w_m0 (pc1 := 47) rfl rfl (h_pI (j := 4) rfl rfl rfl rfl rfl rfl rfl ⟨rfl, rfl⟩ rfl) rfl ?_
  refine w_r rfl rfl rfl (fun _ _ => rfl) rfl ?_
  exact ⟨rfl, rfl, rfl⟩
set_option maxRecDepth 100000 in
theorem m_65y {b v : Nat} (S : tkS B n m C i) (hb : b < 6) (hv : C.1 8 b = nI v) (h6 : v ≤ 6) (hk : kd B n i = 3) (hc : fnd (fun j => decide (C.2.1 9 (b * 6 + j) = vl B n i)) v 0 ≠ -1) : Wd L xs (d + 1) y_65 (0, [(0, .ref 121), (1, .int (nI b))], [], MH C t, sl) (Rt (some (.int (fnd (fun j => decide (C.2.1 9 (b * 6 + j) = vl B n i)) v 0))) (MH C t) sl) nX := by
  refine w_p (pc1 := 1) rfl rfl ?_
  refine w_m0 (pc1 := 4) rfl rfl (h_gC rfl rfl rfl rfl) rfl ?_
  refine w_m0 (pc1 := 7) (st1 := .ref (kd B n i) :: _) rfl rfl (h_gRs rfl rfl rfl rfl rfl (tkS_tok S)) rfl ?_
  refine w_m0 (pc1 := 10) (st1 := .ref 3 :: _) rfl rfl rfl rfl ?_
  refine w_ae_y (A := 21) (ok_kd) (by decide) (hk) rfl rfl ?_
  refine w_p (pc1 := 22) rfl rfl ?_
  refine w_p (pc1 := 23) (st1 := .int (-1) :: _) rfl rfl ?_
  refine w_t (a := 35) (b := 26) (cb_ne_t (by exact nK_m1 (by omega))) rfl rfl ?_
  refine w_p (pc1 := 36) rfl rfl ?_
  refine w_m0 (pc1 := 39) rfl rfl (h_gC rfl rfl rfl rfl) rfl ?_
  refine w_p (pc1 := 40) rfl rfl ?_
  refine w_p (pc1 := 41) rfl rfl ?_
  refine w_m0 (pc1 := 44) rfl rfl (h_gC rfl rfl rfl rfl) rfl ?_
  refine w_m0 (pc1 := 47) (st1 := .long (vl B n i) :: _) rfl rfl (h_gJe rfl rfl rfl rfl rfl (tkS_v S)) rfl ?_
  refine w_je (pc1 := 50) (vs := [.ref 106, .int (nI (b)), .long (vl B n i)]) (rest := []) (st1 := [.int (fnd (fun j => decide (C.2.1 9 (b * 6 + j) = vl B n i)) v 0)]) (m_41 (d := _) (sl := 0) hb hv h6) rfl rfl rfl (fun _ _ => rfl) rfl (by exact cl_v my_41 rfl rfl rfl (Nat.le_of_ble_eq_true rfl) rfl (MH_obj rfl rfl) rfl (by decide) rfl rfl) (by rfl) (Nat.le_of_ble_eq_true rfl) (Nat.le_of_ble_eq_true rfl) rfl (by rfl) ?_
  refine w_p (pc1 := 51) (al1 := [(2, .int (fnd (fun j => decide (C.2.1 9 (b * 6 + j) = vl B n i)) v 0)), (0, .ref 121), (1, .int (nI (b)))]) rfl rfl ?_
  refine w_p (pc1 := 52) rfl rfl ?_
  refine w_p (pc1 := 53) (st1 := .int (-1) :: _) rfl rfl ?_
  refine w_t (a := 64) (b := 56) (cb_ne_t (by exact hc)) rfl rfl ?_
  refine w_p (pc1 := 65) rfl rfl ?_
  refine w_r rfl rfl rfl (fun _ _ => rfl) cr_int ?_
  exact ⟨rfl, rfl, rfl⟩
set_option maxRecDepth 100000 in
theorem m_65c {b v : Nat} (S : tkS B n m C i) (hb : b < 6) (hv : C.1 8 b = nI v) (h6 : v ≤ 6) (hk : kd B n i = 3) (hc : fnd (fun j => decide (C.2.1 9 (b * 6 + j) = vl B n i)) v 0 = -1) : Wd L xs (d + 7) y_65 (0, [(0, .ref 121), (1, .int (nI b))], [], MH C t, sl) nP (Xk 12 (rfC B n C i 4) t sl) := by
  refine w_p (pc1 := 1) rfl rfl ?_
  refine w_m0 (pc1 := 4) rfl rfl (h_gC rfl rfl rfl rfl) rfl ?_
  refine w_m0 (pc1 := 7) (st1 := .ref (kd B n i) :: _) rfl rfl (h_gRs rfl rfl rfl rfl rfl (tkS_tok S)) rfl ?_
  refine w_m0 (pc1 := 10) (st1 := .ref 3 :: _) rfl rfl rfl rfl ?_
  refine w_ae_y (A := 21) (ok_kd) (by decide) (hk) rfl rfl ?_
  refine w_p (pc1 := 22) rfl rfl ?_
  refine w_p (pc1 := 23) (st1 := .int (-1) :: _) rfl rfl ?_
  refine w_t (a := 35) (b := 26) (cb_ne_t (by exact nK_m1 (by omega))) rfl rfl ?_
  refine w_p (pc1 := 36) rfl rfl ?_
  refine w_m0 (pc1 := 39) rfl rfl (h_gC rfl rfl rfl rfl) rfl ?_
  refine w_p (pc1 := 40) rfl rfl ?_
  refine w_p (pc1 := 41) rfl rfl ?_
  refine w_m0 (pc1 := 44) rfl rfl (h_gC rfl rfl rfl rfl) rfl ?_
  refine w_m0 (pc1 := 47) (st1 := .long (vl B n i) :: _) rfl rfl (h_gJe rfl rfl rfl rfl rfl (tkS_v S)) rfl ?_
  refine w_je (pc1 := 50) (vs := [.ref 106, .int (nI (b)), .long (vl B n i)]) (rest := []) (st1 := [.int (fnd (fun j => decide (C.2.1 9 (b * 6 + j) = vl B n i)) v 0)]) (m_41 (d := _) (sl := 0) hb hv h6) rfl rfl rfl (fun _ _ => rfl) rfl (by exact cl_v my_41 rfl rfl rfl (Nat.le_of_ble_eq_true rfl) rfl (MH_obj rfl rfl) rfl (by decide) rfl rfl) (by rfl) (Nat.le_of_ble_eq_true rfl) (Nat.le_of_ble_eq_true rfl) rfl (by rfl) ?_
  refine w_p (pc1 := 51) (al1 := [(2, .int (fnd (fun j => decide (C.2.1 9 (b * 6 + j) = vl B n i)) v 0)), (0, .ref 121), (1, .int (nI (b)))]) rfl rfl ?_
  refine w_p (pc1 := 52) rfl rfl ?_
  refine w_p (pc1 := 53) (st1 := .int (-1) :: _) rfl rfl ?_
  refine w_f (a := 64) (b := 56) (cb_ne_f (by exact hc)) rfl rfl ?_
  refine w_p (pc1 := 57) rfl rfl ?_
  refine w_m0 (pc1 := 60) rfl rfl (h_gC rfl rfl rfl rfl) rfl ?_
  refine w_p (pc1 := 61) (st1 := .int 4 :: _) rfl rfl ?_
  refine w_ji (pc1 := 64) (vs := [.ref 101, .int 4]) (rest := []) (m_31 (d := d) (sl := 0) S) rfl rfl rfl (fun _ _ => rfl) rfl (by exact cl_v my_31 rfl rfl rfl (Nat.le_of_ble_eq_true rfl) rfl (MH_obj rfl rfl) rfl (by decide) rfl rfl) (by rfl) (Nat.le_of_ble_eq_true rfl) (Nat.le_of_ble_eq_true rfl) rfl (fun v h1 d1 hq => ?_) (fun a h1 d1 hq => ?_)
  · exact hq.elim
  · rcases hq with ⟨ha, hh, hn⟩
    · subst ha; subst hh; subst hn
      refine Or.inl ⟨ch_new (by decide) rfl, ?_⟩
      exact ⟨rfl, rfl, rfl⟩
set_option maxRecDepth 100000 in
theorem m_65r (S : tkS B n m C i) (hk : kd B n i = 3) : Wd L xs (d + 7) y_65 (0, [(0, .ref 121), (1, .int (-1))], [], MH C t, sl) nP (Xk 12 (rfC B n C i 7) t sl) := by
  refine w_p (pc1 := 1) rfl rfl ?_
  refine w_m0 (pc1 := 4) rfl rfl (h_gC rfl rfl rfl rfl) rfl ?_
  refine w_m0 (pc1 := 7) (st1 := .ref (kd B n i) :: _) rfl rfl (h_gRs rfl rfl rfl rfl rfl (tkS_tok S)) rfl ?_
  refine w_m0 (pc1 := 10) (st1 := .ref 3 :: _) rfl rfl rfl rfl ?_
  refine w_ae_y (A := 21) (ok_kd) (by decide) (hk) rfl rfl ?_
  refine w_p (pc1 := 22) rfl rfl ?_
  refine w_p (pc1 := 23) (st1 := .int (-1) :: _) rfl rfl ?_
  refine w_f (a := 35) (b := 26) rfl rfl rfl ?_
  refine w_p (pc1 := 27) rfl rfl ?_
  refine w_m0 (pc1 := 30) rfl rfl (h_gC rfl rfl rfl rfl) rfl ?_
  refine w_p (pc1 := 32) (st1 := .int 7 :: _) rfl rfl ?_
  refine w_ji (pc1 := 35) (vs := [.ref 101, .int 7]) (rest := []) (m_31 (d := d) (sl := 0) S) rfl rfl rfl (fun _ _ => rfl) rfl (by exact cl_v my_31 rfl rfl rfl (Nat.le_of_ble_eq_true rfl) rfl (MH_obj rfl rfl) rfl (by decide) rfl rfl) (by rfl) (Nat.le_of_ble_eq_true rfl) (Nat.le_of_ble_eq_true rfl) rfl (fun v h1 d1 hq => ?_) (fun a h1 d1 hq => ?_)
  · exact hq.elim
  · rcases hq with ⟨ha, hh, hn⟩
    · subst ha; subst hh; subst hn
      refine Or.inl ⟨ch_new (by decide) rfl, ?_⟩
      exact ⟨rfl, rfl, rfl⟩
set_option maxRecDepth 100000 in
theorem m_65n {x : Int32} (S : tkS B n m C i) (hk : kd B n i ≠ 3) : Wd L xs (d + 7) y_65 (0, [(0, .ref 121), (1, .int x)], [], MH C t, sl) nP (Xk 12 (rfC B n C i 2) t sl) := by
  refine w_p (pc1 := 1) rfl rfl ?_
  refine w_m0 (pc1 := 4) rfl rfl (h_gC rfl rfl rfl rfl) rfl ?_
  refine w_m0 (pc1 := 7) (st1 := .ref (kd B n i) :: _) rfl rfl (h_gRs rfl rfl rfl rfl rfl (tkS_tok S)) rfl ?_
  refine w_m0 (pc1 := 10) (st1 := .ref 3 :: _) rfl rfl rfl rfl ?_
  refine w_ae_n (A := 21) (Bn := 13) (ok_kd) (by decide) (hk) rfl rfl rfl ?_
  refine w_p (pc1 := 14) rfl rfl ?_
  refine w_m0 (pc1 := 17) rfl rfl (h_gC rfl rfl rfl rfl) rfl ?_
  refine w_p (pc1 := 18) (st1 := .int 2 :: _) rfl rfl ?_
  refine w_ji (pc1 := 21) (vs := [.ref 101, .int 2]) (rest := []) (m_31 (d := d) (sl := 0) S) rfl rfl rfl (fun _ _ => rfl) rfl (by exact cl_v my_31 rfl rfl rfl (Nat.le_of_ble_eq_true rfl) rfl (MH_obj rfl rfl) rfl (by decide) rfl rfl) (by rfl) (Nat.le_of_ble_eq_true rfl) (Nat.le_of_ble_eq_true rfl) rfl (fun v h1 d1 hq => ?_) (fun a h1 d1 hq => ?_)
  · exact hq.elim
  · rcases hq with ⟨ha, hh, hn⟩
    · subst ha; subst hh; subst hn
      refine Or.inl ⟨ch_new (by decide) rfl, ?_⟩
      exact ⟨rfl, rfl, rfl⟩
set_option maxRecDepth 100000 in
theorem m_66y {x : Int32} (h1 : C.1 21 8 ≠ -1) (h2 : C.1 21 9 ≠ x) : Wd L xs d y_66 (0, [(0, .ref 121), (1, .int x)], [], MH C t, sl) (Rt none (MH C t) sl) nX := by
  refine w_p (pc1 := 1) rfl rfl ?_
  refine w_m0 (pc1 := 4) rfl rfl (h_gI (j := 8) rfl rfl rfl rfl rfl) rfl ?_
  refine w_p (pc1 := 5) (st1 := .int (-1) :: _) rfl rfl ?_
  refine w_f (a := 16) (b := 8) (cb_eq_f (by exact h1)) rfl rfl ?_
  refine w_p (pc1 := 9) rfl rfl ?_
  refine w_m0 (pc1 := 12) rfl rfl (h_gI (j := 9) rfl rfl rfl rfl rfl) rfl ?_
  refine w_p (pc1 := 13) rfl rfl ?_
  refine w_t (a := 25) (b := 16) (cb_ne_t (by exact h2)) rfl rfl ?_
  refine w_r rfl rfl rfl (fun _ _ => rfl) rfl ?_
  exact ⟨rfl, rfl, rfl⟩
set_option maxRecDepth 100000 in
theorem m_66n {x : Int32} (S : tkS B n m C i) (h : C.1 21 8 = -1 ∨ C.1 21 9 = x) : Wd L xs (d + 7) y_66 (0, [(0, .ref 121), (1, .int x)], [], MH C t, sl) nP (Xk 12 (rfC B n C i 7) t sl) := by
  by_cases h1 : C.1 21 8 = -1
  · skip
    refine w_p (pc1 := 1) rfl rfl ?_
    refine w_m0 (pc1 := 4) rfl rfl (h_gI (j := 8) rfl rfl rfl rfl rfl) rfl ?_
    refine w_p (pc1 := 5) (st1 := .int (-1) :: _) rfl rfl ?_
    refine w_t (a := 16) (b := 8) (cb_eq_t (by exact h1)) rfl rfl ?_
    refine w_p (pc1 := 17) rfl rfl ?_
    refine w_m0 (pc1 := 20) rfl rfl (h_gC rfl rfl rfl rfl) rfl ?_
    refine w_p (pc1 := 22) (st1 := .int 7 :: _) rfl rfl ?_
    refine w_ji (pc1 := 25) (vs := [.ref 101, .int 7]) (rest := []) (m_31 (d := d) (sl := 0) S) rfl rfl rfl (fun _ _ => rfl) rfl (by exact cl_v my_31 rfl rfl rfl (Nat.le_of_ble_eq_true rfl) rfl (MH_obj rfl rfl) rfl (by decide) rfl rfl) (by rfl) (Nat.le_of_ble_eq_true rfl) (Nat.le_of_ble_eq_true rfl) rfl (fun v h1 d1 hq => ?_) (fun a h1 d1 hq => ?_)
    · exact hq.elim
    · rcases hq with ⟨ha, hh, hn⟩
      · subst ha; subst hh; subst hn
        refine Or.inl ⟨ch_new (by decide) rfl, ?_⟩
        exact ⟨rfl, rfl, rfl⟩
  · have h2 : C.1 21 9 = x := by rcases h with h | h
                                 · exact absurd h h1
                                 · exact h
    refine w_p (pc1 := 1) rfl rfl ?_
    refine w_m0 (pc1 := 4) rfl rfl (h_gI (j := 8) rfl rfl rfl rfl rfl) rfl ?_
    refine w_p (pc1 := 5) (st1 := .int (-1) :: _) rfl rfl ?_
    refine w_f (a := 16) (b := 8) (cb_eq_f (by exact h1)) rfl rfl ?_
    refine w_p (pc1 := 9) rfl rfl ?_
    refine w_m0 (pc1 := 12) rfl rfl (h_gI (j := 9) rfl rfl rfl rfl rfl) rfl ?_
    refine w_p (pc1 := 13) rfl rfl ?_
    refine w_f (a := 25) (b := 16) (cb_ne_f (by exact h2)) rfl rfl ?_
    refine w_p (pc1 := 17) rfl rfl ?_
    refine w_m0 (pc1 := 20) rfl rfl (h_gC rfl rfl rfl rfl) rfl ?_
    refine w_p (pc1 := 22) (st1 := .int 7 :: _) rfl rfl ?_
    refine w_ji (pc1 := 25) (vs := [.ref 101, .int 7]) (rest := []) (m_31 (d := d) (sl := 0) S) rfl rfl rfl (fun _ _ => rfl) rfl (by exact cl_v my_31 rfl rfl rfl (Nat.le_of_ble_eq_true rfl) rfl (MH_obj rfl rfl) rfl (by decide) rfl rfl) (by rfl) (Nat.le_of_ble_eq_true rfl) (Nat.le_of_ble_eq_true rfl) rfl (fun v h1 d1 hq => ?_) (fun a h1 d1 hq => ?_)
    · exact hq.elim
    · rcases hq with ⟨ha, hh, hn⟩
      · subst ha; subst hh; subst hn
        refine Or.inl ⟨ch_new (by decide) rfl, ?_⟩
        exact ⟨rfl, rfl, rfl⟩
end TKS
