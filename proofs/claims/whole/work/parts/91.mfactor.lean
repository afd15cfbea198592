/-! THE OTHER SIDE'S FORMULAS, 6: a factor that is a number or nothing, a sign ahead, a bracket -/
section MFC
variable {L : Nat} {xs : Nat → Int32} {t : ab_H} {d n p b wb e : Nat} {B : Nat → Nat} {C0 C : co_T} {s y z : fs_T} {W : List (Int32 × Int64)} {c : Int32} {i : Nat}
def RFM (B : Nat → Nat) (n : Nat) (C0 : co_T) (t : ab_H) (p b wb f : Nat) (v : Option Value) (c : Int32) (i : Nat) : Option Value → ab_H → Nat → Prop := fun v' h k => v = v' ∧ (∃ C', FM B n C0 C' p b wb f c i ∧ MH C' t = h) ∧ 0 = k
set_option maxRecDepth 100000 in
theorem mTk_w {k : Nat} (h5 : 5 ≤ k) (h : k ≤ 43) : mTk k = 3 := by
  unfold mTk
  rw [if_neg (by omega), if_neg (by omega), if_neg (by omega), if_pos h]
set_option maxRecDepth 100000 in
theorem mTk_s {k : Nat} (h : 44 ≤ k) : mTk k = 4 := by
  unfold mTk
  rw [if_neg (by omega), if_neg (by omega), if_neg (by omega), if_neg (by omega)]
set_option maxRecDepth 100000 in
theorem gn_ok (M : MK B n C0 C p b wb (e + 1) s W) (he : e < 9) (h6 : s.1 < 600) (hk : kd B n s.1 = 4) (h1 : spd s = .inr y) : Wd L xs (d + 5) y_229 (0, [(0, .ref 176)], [], MH C t, 0) (QM B n C0 t p b wb (e + 1) (some (.int 1)) (nxt (emt y 0 (vl B n y.1).toInt32)) W) nX := by
  have hy := spd_s h1
  have hky : kd B n y.1 = 4 := by rw [hy.1]; exact hk
  refine w_p (pc1 := 1) rfl rfl ?_
  refine w_m0 (pc1 := 4) (st1 := .int 2 :: _) rfl rfl (h_gIe (j := 4) rfl rfl rfl rfl rfl (by rw [M.2.1.2.2.1, hk]; rfl)) rfl ?_
  refine w_p (pc1 := 5) (st1 := .int 2 :: _) rfl rfl ?_
  refine w_t (a := 18) (b := 8) rfl rfl rfl ?_
  refine w_p (pc1 := 19) rfl rfl ?_
  refine w_ji (pc1 := 22) (vs := [.ref 176]) (rest := []) (dM (d := _) M h1) rfl rfl rfl (fun _ _ => rfl) rfl (by exact cl_v my_226 rfl rfl rfl (Nat.le_of_ble_eq_true rfl) rfl (MH_obj rfl rfl) rfl (by decide) rfl rfl) (by rfl) (Nat.le_of_ble_eq_true rfl) (Nat.le_of_ble_eq_true rfl) rfl (fun v h1 d1 hq => ?_) (fun _ _ _ e => e.elim)
  rcases hq with ⟨hv, ⟨C1, M1, hh⟩, hn⟩
  · subst hv; subst hh; subst hn
    refine w_p (pc1 := 23) rfl rfl ?_
    refine w_p (pc1 := 24) rfl rfl ?_
    refine w_m0 (pc1 := 27) (st1 := .int 2 :: _) rfl rfl (h_gIe (j := 4) rfl rfl rfl rfl rfl (by rw [M1.2.1.2.2.1, hky]; rfl)) rfl ?_
    refine w_p (pc1 := 28) (st1 := .int 2 :: _) rfl rfl ?_
    refine w_f (a := 35) (b := 31) rfl rfl rfl ?_
    refine w_p (pc1 := 32) (st1 := .int 1 :: _) rfl rfl ?_
    refine w_p (pc1 := 36) rfl rfl ?_
    refine w_p (pc1 := 37) rfl rfl ?_
    refine w_m0 (pc1 := 40) (st1 := .long (vl B n y.1) :: _) rfl rfl (h_gJe (j := 7) rfl rfl rfl rfl rfl (by rw [M1.2.1.2.2.2.1, hky]; rfl)) rfl ?_
    refine w_ji (pc1 := 43) (vs := [.ref 176, .int 1, .long (vl B n y.1)]) (rest := []) (sM (a := 0) (c := (vl B n y.1).toInt32) (d := _) M1 (by omega) (Or.inl ⟨rfl, rfl, num_fit hky⟩)) rfl rfl rfl (fun _ _ => rfl) rfl (by exact cl_v my_230 rfl rfl rfl (Nat.le_of_ble_eq_true rfl) rfl (MH_obj rfl rfl) rfl (by decide) rfl rfl) (by rfl) (Nat.le_of_ble_eq_true rfl) (Nat.le_of_ble_eq_true rfl) rfl (fun v h1 d1 hq => ?_) (fun _ _ _ e => e.elim)
    rcases hq with ⟨hv, ⟨C2, M2, hh⟩, hn⟩
    · subst hv; subst hh; subst hn
      refine w_p (pc1 := 44) rfl rfl ?_
      refine w_ji (pc1 := 47) (vs := [.ref 176]) (rest := []) (nA (d := _) M2 (show y.1 < 600 by rw [hy.1]; exact h6)) rfl rfl rfl (fun _ _ => rfl) rfl (by exact cl_v my_195 rfl rfl rfl (Nat.le_of_ble_eq_true rfl) rfl (MH_obj rfl rfl) rfl (by decide) rfl rfl) (by rfl) (Nat.le_of_ble_eq_true rfl) (Nat.le_of_ble_eq_true rfl) rfl (fun v h1 d1 hq => ?_) (fun _ _ _ e => e.elim)
      rcases hq with ⟨hv, ⟨C3, Q3, hh⟩, hn⟩
      · subst hv; subst hh; subst hn
        refine w_p (pc1 := 48) (st1 := .int 1 :: _) rfl rfl ?_
        refine w_r rfl rfl rfl (fun _ _ => rfl) rfl ?_
        exact ⟨rfl, ⟨C3, Q3, rfl⟩, rfl⟩
set_option maxRecDepth 100000 in
theorem gn_er (M : MK B n C0 C p b wb (e + 1) s W) (he : e < 9) (h6 : s.1 < 600) (hk : kd B n s.1 = 4) (h1 : spd s = .inl (c, i)) : Wd L xs (d + 5) y_229 (0, [(0, .ref 176)], [], MH C t, 0) (RFM B n C0 t p b wb 2 (some (.int 1)) c i) nX := by
  refine w_p (pc1 := 1) rfl rfl ?_
  refine w_m0 (pc1 := 4) (st1 := .int 2 :: _) rfl rfl (h_gIe (j := 4) rfl rfl rfl rfl rfl (by rw [M.2.1.2.2.1, hk]; rfl)) rfl ?_
  refine w_p (pc1 := 5) (st1 := .int 2 :: _) rfl rfl ?_
  refine w_t (a := 18) (b := 8) rfl rfl rfl ?_
  refine w_p (pc1 := 19) rfl rfl ?_
  refine w_ji (pc1 := 22) (vs := [.ref 176]) (rest := []) (dE (d := _) M h1) rfl rfl rfl (fun _ _ => rfl) rfl (by exact cl_v my_226 rfl rfl rfl (Nat.le_of_ble_eq_true rfl) rfl (MH_obj rfl rfl) rfl (by decide) rfl rfl) (by rfl) (Nat.le_of_ble_eq_true rfl) (Nat.le_of_ble_eq_true rfl) rfl (fun v h1 d1 hq => ?_) (fun _ _ _ e => e.elim)
  rcases hq with ⟨hv, ⟨C1, F1, hh⟩, hn⟩
  · subst hv; subst hh; subst hn
    refine w_p (pc1 := 23) rfl rfl ?_
    refine w_p (pc1 := 24) rfl rfl ?_
    refine w_m0 (pc1 := 27) rfl rfl (h_gI (j := 4) rfl rfl rfl rfl rfl) rfl ?_
    refine w_p (pc1 := 28) (st1 := .int 2 :: _) rfl rfl ?_
    refine w_b (a := 35) (b := 31) rfl rfl (fun c28 => ?_) (fun c28 => ?_)
    · replace c28 := cc_ne_t c28
      refine w_p (pc1 := 36) (st1 := .int 2 :: _) rfl rfl ?_
      refine w_p (pc1 := 37) rfl rfl ?_
      refine w_m0 (pc1 := 40) rfl rfl (h_gJ (j := 7) rfl rfl rfl rfl rfl) rfl ?_
      refine w_ji (pc1 := 43) (vs := [.ref 176, .int 2, _]) (rest := []) (sF (d := _) F1 (by omega)) rfl rfl rfl (fun _ _ => rfl) rfl (by exact cl_v my_230 rfl rfl rfl (Nat.le_of_ble_eq_true rfl) rfl (MH_obj rfl rfl) rfl (by decide) rfl rfl) (by rfl) (Nat.le_of_ble_eq_true rfl) (Nat.le_of_ble_eq_true rfl) rfl (fun v h1 d1 hq => ?_) (fun _ _ _ e => e.elim)
      rcases hq with ⟨hv, ⟨C2, F2, hh⟩, hn⟩
      · subst hv; subst hh; subst hn
        refine w_p (pc1 := 44) rfl rfl ?_
        refine w_ji (pc1 := 47) (vs := [.ref 176]) (rest := []) (nF (d := _) F2) rfl rfl rfl (fun _ _ => rfl) rfl (by exact cl_v my_195 rfl rfl rfl (Nat.le_of_ble_eq_true rfl) rfl (MH_obj rfl rfl) rfl (by decide) rfl rfl) (by rfl) (Nat.le_of_ble_eq_true rfl) (Nat.le_of_ble_eq_true rfl) rfl (fun v h1 d1 hq => ?_) (fun _ _ _ e => e.elim)
        rcases hq with ⟨hv, ⟨C3, F3, hh⟩, hn⟩
        · subst hv; subst hh; subst hn
          refine w_p (pc1 := 48) (st1 := .int 1 :: _) rfl rfl ?_
          refine w_r rfl rfl rfl (fun _ _ => rfl) rfl ?_
          exact ⟨rfl, ⟨C3, F3, rfl⟩, rfl⟩
    · replace c28 := cc_ne_f c28
      refine w_p (pc1 := 32) (st1 := .int 1 :: _) rfl rfl ?_
      refine w_p (pc1 := 36) rfl rfl ?_
      refine w_p (pc1 := 37) rfl rfl ?_
      refine w_m0 (pc1 := 40) rfl rfl (h_gJ (j := 7) rfl rfl rfl rfl rfl) rfl ?_
      refine w_ji (pc1 := 43) (vs := [.ref 176, .int 1, _]) (rest := []) (sF (d := _) F1 (by omega)) rfl rfl rfl (fun _ _ => rfl) rfl (by exact cl_v my_230 rfl rfl rfl (Nat.le_of_ble_eq_true rfl) rfl (MH_obj rfl rfl) rfl (by decide) rfl rfl) (by rfl) (Nat.le_of_ble_eq_true rfl) (Nat.le_of_ble_eq_true rfl) rfl (fun v h1 d1 hq => ?_) (fun _ _ _ e => e.elim)
      rcases hq with ⟨hv, ⟨C2, F2, hh⟩, hn⟩
      · subst hv; subst hh; subst hn
        refine w_p (pc1 := 44) rfl rfl ?_
        refine w_ji (pc1 := 47) (vs := [.ref 176]) (rest := []) (nF (d := _) F2) rfl rfl rfl (fun _ _ => rfl) rfl (by exact cl_v my_195 rfl rfl rfl (Nat.le_of_ble_eq_true rfl) rfl (MH_obj rfl rfl) rfl (by decide) rfl rfl) (by rfl) (Nat.le_of_ble_eq_true rfl) (Nat.le_of_ble_eq_true rfl) rfl (fun v h1 d1 hq => ?_) (fun _ _ _ e => e.elim)
        rcases hq with ⟨hv, ⟨C3, F3, hh⟩, hn⟩
        · subst hv; subst hh; subst hn
          refine w_p (pc1 := 48) (st1 := .int 1 :: _) rfl rfl ?_
          refine w_r rfl rfl rfl (fun _ _ => rfl) rfl ?_
          exact ⟨rfl, ⟨C3, F3, rfl⟩, rfl⟩
set_option maxRecDepth 100000 in
theorem gu_ok (M : MK B n C0 C p b wb (e + 1) s W) (he : e < 9) (h6 : s.1 < 600) (hk : kd B n s.1 = 27) (h1 : spd s = .inr y) : Wd L xs (d + 5) y_229 (0, [(0, .ref 176)], [], MH C t, 0) (QM B n C0 t p b wb (e + 1) (some (.int 1)) (nxt (emt y 1 0)) W) nX := by
  have hy := spd_s h1
  have hky : kd B n y.1 = 27 := by rw [hy.1]; exact hk
  refine w_p (pc1 := 1) rfl rfl ?_
  refine w_m0 (pc1 := 4) (st1 := .int 3 :: _) rfl rfl (h_gIe (j := 4) rfl rfl rfl rfl rfl (by rw [M.2.1.2.2.1, hk]; rfl)) rfl ?_
  refine w_p (pc1 := 5) (st1 := .int 2 :: _) rfl rfl ?_
  refine w_f (a := 18) (b := 8) rfl rfl rfl ?_
  refine w_p (pc1 := 9) rfl rfl ?_
  refine w_m0 (pc1 := 12) (st1 := .long 1853189228 :: _) rfl rfl rfl rfl ?_
  refine w_je (pc1 := 15) (vs := [.ref 176, .long 1853189228]) (rest := []) (st1 := [.int 1]) (m_205t (d := _) (sl := 0) ((wd_k (k := 27) M.2.1 (by decide) (by decide)).trans (decide_eq_true hk))) rfl rfl rfl (fun _ _ => rfl) rfl (by exact cl_v my_205 rfl rfl rfl (Nat.le_of_ble_eq_true rfl) rfl (MH_obj rfl rfl) rfl (by decide) rfl rfl) (by rfl) (Nat.le_of_ble_eq_true rfl) (Nat.le_of_ble_eq_true rfl) rfl (by rfl) ?_
  refine w_f (a := 49) (b := 18) rfl rfl rfl ?_
  refine w_p (pc1 := 19) rfl rfl ?_
  refine w_ji (pc1 := 22) (vs := [.ref 176]) (rest := []) (dM (d := _) M h1) rfl rfl rfl (fun _ _ => rfl) rfl (by exact cl_v my_226 rfl rfl rfl (Nat.le_of_ble_eq_true rfl) rfl (MH_obj rfl rfl) rfl (by decide) rfl rfl) (by rfl) (Nat.le_of_ble_eq_true rfl) (Nat.le_of_ble_eq_true rfl) rfl (fun v h1 d1 hq => ?_) (fun _ _ _ e => e.elim)
  rcases hq with ⟨hv, ⟨C1, M1, hh⟩, hn⟩
  · subst hv; subst hh; subst hn
    refine w_p (pc1 := 23) rfl rfl ?_
    refine w_p (pc1 := 24) rfl rfl ?_
    refine w_m0 (pc1 := 27) (st1 := .int 3 :: _) rfl rfl (h_gIe (j := 4) rfl rfl rfl rfl rfl (by rw [M1.2.1.2.2.1, hky]; rfl)) rfl ?_
    refine w_p (pc1 := 28) (st1 := .int 2 :: _) rfl rfl ?_
    refine w_t (a := 35) (b := 31) rfl rfl rfl ?_
    refine w_p (pc1 := 36) (st1 := .int 2 :: _) rfl rfl ?_
    refine w_p (pc1 := 37) rfl rfl ?_
    refine w_m0 (pc1 := 40) (st1 := .long (vl B n y.1) :: _) rfl rfl (h_gJe (j := 7) rfl rfl rfl rfl rfl (by rw [M1.2.1.2.2.2.1, hky]; rfl)) rfl ?_
    refine w_ji (pc1 := 43) (vs := [.ref 176, .int 2, .long (vl B n y.1)]) (rest := []) (sM (a := 1) (c := 0) (d := _) M1 (by omega) (Or.inr (Or.inl ⟨rfl, rfl⟩))) rfl rfl rfl (fun _ _ => rfl) rfl (by exact cl_v my_230 rfl rfl rfl (Nat.le_of_ble_eq_true rfl) rfl (MH_obj rfl rfl) rfl (by decide) rfl rfl) (by rfl) (Nat.le_of_ble_eq_true rfl) (Nat.le_of_ble_eq_true rfl) rfl (fun v h1 d1 hq => ?_) (fun _ _ _ e => e.elim)
    rcases hq with ⟨hv, ⟨C2, M2, hh⟩, hn⟩
    · subst hv; subst hh; subst hn
      refine w_p (pc1 := 44) rfl rfl ?_
      refine w_ji (pc1 := 47) (vs := [.ref 176]) (rest := []) (nA (d := _) M2 (show y.1 < 600 by rw [hy.1]; exact h6)) rfl rfl rfl (fun _ _ => rfl) rfl (by exact cl_v my_195 rfl rfl rfl (Nat.le_of_ble_eq_true rfl) rfl (MH_obj rfl rfl) rfl (by decide) rfl rfl) (by rfl) (Nat.le_of_ble_eq_true rfl) (Nat.le_of_ble_eq_true rfl) rfl (fun v h1 d1 hq => ?_) (fun _ _ _ e => e.elim)
      rcases hq with ⟨hv, ⟨C3, Q3, hh⟩, hn⟩
      · subst hv; subst hh; subst hn
        refine w_p (pc1 := 48) (st1 := .int 1 :: _) rfl rfl ?_
        refine w_r rfl rfl rfl (fun _ _ => rfl) rfl ?_
        exact ⟨rfl, ⟨C3, Q3, rfl⟩, rfl⟩
set_option maxRecDepth 100000 in
theorem gu_er (M : MK B n C0 C p b wb (e + 1) s W) (he : e < 9) (h6 : s.1 < 600) (hk : kd B n s.1 = 27) (h1 : spd s = .inl (c, i)) : Wd L xs (d + 5) y_229 (0, [(0, .ref 176)], [], MH C t, 0) (RFM B n C0 t p b wb 2 (some (.int 1)) c i) nX := by
  refine w_p (pc1 := 1) rfl rfl ?_
  refine w_m0 (pc1 := 4) (st1 := .int 3 :: _) rfl rfl (h_gIe (j := 4) rfl rfl rfl rfl rfl (by rw [M.2.1.2.2.1, hk]; rfl)) rfl ?_
  refine w_p (pc1 := 5) (st1 := .int 2 :: _) rfl rfl ?_
  refine w_f (a := 18) (b := 8) rfl rfl rfl ?_
  refine w_p (pc1 := 9) rfl rfl ?_
  refine w_m0 (pc1 := 12) (st1 := .long 1853189228 :: _) rfl rfl rfl rfl ?_
  refine w_je (pc1 := 15) (vs := [.ref 176, .long 1853189228]) (rest := []) (st1 := [.int 1]) (m_205t (d := _) (sl := 0) ((wd_k (k := 27) M.2.1 (by decide) (by decide)).trans (decide_eq_true hk))) rfl rfl rfl (fun _ _ => rfl) rfl (by exact cl_v my_205 rfl rfl rfl (Nat.le_of_ble_eq_true rfl) rfl (MH_obj rfl rfl) rfl (by decide) rfl rfl) (by rfl) (Nat.le_of_ble_eq_true rfl) (Nat.le_of_ble_eq_true rfl) rfl (by rfl) ?_
  refine w_f (a := 49) (b := 18) rfl rfl rfl ?_
  refine w_p (pc1 := 19) rfl rfl ?_
  refine w_ji (pc1 := 22) (vs := [.ref 176]) (rest := []) (dE (d := _) M h1) rfl rfl rfl (fun _ _ => rfl) rfl (by exact cl_v my_226 rfl rfl rfl (Nat.le_of_ble_eq_true rfl) rfl (MH_obj rfl rfl) rfl (by decide) rfl rfl) (by rfl) (Nat.le_of_ble_eq_true rfl) (Nat.le_of_ble_eq_true rfl) rfl (fun v h1 d1 hq => ?_) (fun _ _ _ e => e.elim)
  rcases hq with ⟨hv, ⟨C1, F1, hh⟩, hn⟩
  · subst hv; subst hh; subst hn
    refine w_p (pc1 := 23) rfl rfl ?_
    refine w_p (pc1 := 24) rfl rfl ?_
    refine w_m0 (pc1 := 27) rfl rfl (h_gI (j := 4) rfl rfl rfl rfl rfl) rfl ?_
    refine w_p (pc1 := 28) (st1 := .int 2 :: _) rfl rfl ?_
    refine w_b (a := 35) (b := 31) rfl rfl (fun c28 => ?_) (fun c28 => ?_)
    · replace c28 := cc_ne_t c28
      refine w_p (pc1 := 36) (st1 := .int 2 :: _) rfl rfl ?_
      refine w_p (pc1 := 37) rfl rfl ?_
      refine w_m0 (pc1 := 40) rfl rfl (h_gJ (j := 7) rfl rfl rfl rfl rfl) rfl ?_
      refine w_ji (pc1 := 43) (vs := [.ref 176, .int 2, _]) (rest := []) (sF (d := _) F1 (by omega)) rfl rfl rfl (fun _ _ => rfl) rfl (by exact cl_v my_230 rfl rfl rfl (Nat.le_of_ble_eq_true rfl) rfl (MH_obj rfl rfl) rfl (by decide) rfl rfl) (by rfl) (Nat.le_of_ble_eq_true rfl) (Nat.le_of_ble_eq_true rfl) rfl (fun v h1 d1 hq => ?_) (fun _ _ _ e => e.elim)
      rcases hq with ⟨hv, ⟨C2, F2, hh⟩, hn⟩
      · subst hv; subst hh; subst hn
        refine w_p (pc1 := 44) rfl rfl ?_
        refine w_ji (pc1 := 47) (vs := [.ref 176]) (rest := []) (nF (d := _) F2) rfl rfl rfl (fun _ _ => rfl) rfl (by exact cl_v my_195 rfl rfl rfl (Nat.le_of_ble_eq_true rfl) rfl (MH_obj rfl rfl) rfl (by decide) rfl rfl) (by rfl) (Nat.le_of_ble_eq_true rfl) (Nat.le_of_ble_eq_true rfl) rfl (fun v h1 d1 hq => ?_) (fun _ _ _ e => e.elim)
        rcases hq with ⟨hv, ⟨C3, F3, hh⟩, hn⟩
        · subst hv; subst hh; subst hn
          refine w_p (pc1 := 48) (st1 := .int 1 :: _) rfl rfl ?_
          refine w_r rfl rfl rfl (fun _ _ => rfl) rfl ?_
          exact ⟨rfl, ⟨C3, F3, rfl⟩, rfl⟩
    · replace c28 := cc_ne_f c28
      refine w_p (pc1 := 32) (st1 := .int 1 :: _) rfl rfl ?_
      refine w_p (pc1 := 36) rfl rfl ?_
      refine w_p (pc1 := 37) rfl rfl ?_
      refine w_m0 (pc1 := 40) rfl rfl (h_gJ (j := 7) rfl rfl rfl rfl rfl) rfl ?_
      refine w_ji (pc1 := 43) (vs := [.ref 176, .int 1, _]) (rest := []) (sF (d := _) F1 (by omega)) rfl rfl rfl (fun _ _ => rfl) rfl (by exact cl_v my_230 rfl rfl rfl (Nat.le_of_ble_eq_true rfl) rfl (MH_obj rfl rfl) rfl (by decide) rfl rfl) (by rfl) (Nat.le_of_ble_eq_true rfl) (Nat.le_of_ble_eq_true rfl) rfl (fun v h1 d1 hq => ?_) (fun _ _ _ e => e.elim)
      rcases hq with ⟨hv, ⟨C2, F2, hh⟩, hn⟩
      · subst hv; subst hh; subst hn
        refine w_p (pc1 := 44) rfl rfl ?_
        refine w_ji (pc1 := 47) (vs := [.ref 176]) (rest := []) (nF (d := _) F2) rfl rfl rfl (fun _ _ => rfl) rfl (by exact cl_v my_195 rfl rfl rfl (Nat.le_of_ble_eq_true rfl) rfl (MH_obj rfl rfl) rfl (by decide) rfl rfl) (by rfl) (Nat.le_of_ble_eq_true rfl) (Nat.le_of_ble_eq_true rfl) rfl (fun v h1 d1 hq => ?_) (fun _ _ _ e => e.elim)
        rcases hq with ⟨hv, ⟨C3, F3, hh⟩, hn⟩
        · subst hv; subst hh; subst hn
          refine w_p (pc1 := 48) (st1 := .int 1 :: _) rfl rfl ?_
          refine w_r rfl rfl rfl (fun _ _ => rfl) rfl ?_
          exact ⟨rfl, ⟨C3, F3, rfl⟩, rfl⟩
set_option maxRecDepth 100000 in
theorem gm_ok (M : MK B n C0 C p b wb (e + 1) s W) (he : e < 9) (h6 : s.1 < 600) {x : fs_T} (hk : kd B n s.1 = 57) (h1 : gin s = .inr y) (h2 : spd y = .inr x) : Wd L xs (d + 5) y_229 (0, [(0, .ref 176)], [], MH C t, 0) (QM B n C0 t p b wb (e + 1) (some (.int 0)) (nxt x) (W ++ [(3, 0)])) nX := by
  have hy := gin_s h1
  have hx := spd_s h2
  have hx1 : x.1 = s.1 := by rw [hx.1, hy.1]
  refine w_p (pc1 := 1) rfl rfl ?_
  refine w_m0 (pc1 := 4) (st1 := .int 4 :: _) rfl rfl (h_gIe (j := 4) rfl rfl rfl rfl rfl (by rw [M.2.1.2.2.1, hk]; rfl)) rfl ?_
  refine w_p (pc1 := 5) (st1 := .int 2 :: _) rfl rfl ?_
  refine w_f (a := 18) (b := 8) rfl rfl rfl ?_
  refine w_p (pc1 := 9) rfl rfl ?_
  refine w_m0 (pc1 := 12) (st1 := .long 1853189228 :: _) rfl rfl rfl rfl ?_
  refine w_je (pc1 := 15) (vs := [.ref 176, .long 1853189228]) (rest := []) (st1 := [.int 0]) (m_205f (d := _) (sl := 0) ((wd_k (k := 27) M.2.1 (by decide) (by decide)).trans (decide_eq_false (by rw [hk]; decide)))) rfl rfl rfl (fun _ _ => rfl) rfl (by exact cl_v my_205 rfl rfl rfl (Nat.le_of_ble_eq_true rfl) rfl (MH_obj rfl rfl) rfl (by decide) rfl rfl) (by rfl) (Nat.le_of_ble_eq_true rfl) (Nat.le_of_ble_eq_true rfl) rfl (by rfl) ?_
  refine w_t (a := 49) (b := 18) rfl rfl rfl ?_
  refine w_p (pc1 := 50) rfl rfl ?_
  refine w_p (pc1 := 52) (st1 := .int 45 :: _) rfl rfl ?_
  refine w_je (pc1 := 55) (vs := [.ref 176, .int 45]) (rest := []) (st1 := [.int 1]) (m_210t (d := _) (sl := 0) (c := 45) ((sg_k (k := 57) M.2.1 (by decide) (by decide)).trans (decide_eq_true hk))) rfl rfl rfl (fun _ _ => rfl) rfl (by exact cl_v my_210 rfl rfl rfl (Nat.le_of_ble_eq_true rfl) rfl (MH_obj rfl rfl) rfl (by decide) rfl rfl) (by rfl) (Nat.le_of_ble_eq_true rfl) (Nat.le_of_ble_eq_true rfl) rfl (by rfl) ?_
  refine w_f (a := 78) (b := 58) rfl rfl rfl ?_
  refine w_p (pc1 := 59) rfl rfl ?_
  refine w_ji (pc1 := 62) (vs := [.ref 176]) (rest := []) (oM (d := _) M h1) rfl rfl rfl (fun _ _ => rfl) rfl (by exact cl_v my_225 rfl rfl rfl (Nat.le_of_ble_eq_true rfl) rfl (MH_obj rfl rfl) rfl (by decide) rfl rfl) (by rfl) (Nat.le_of_ble_eq_true rfl) (Nat.le_of_ble_eq_true rfl) rfl (fun v h1 d1 hq => ?_) (fun _ _ _ e => e.elim)
  rcases hq with ⟨hv, ⟨C1, M1, hh⟩, hn⟩
  · subst hv; subst hh; subst hn
    refine w_p (pc1 := 63) rfl rfl ?_
    refine w_ji (pc1 := 66) (vs := [.ref 176]) (rest := []) (dM (d := _) M1 h2) rfl rfl rfl (fun _ _ => rfl) rfl (by exact cl_v my_226 rfl rfl rfl (Nat.le_of_ble_eq_true rfl) rfl (MH_obj rfl rfl) rfl (by decide) rfl rfl) (by rfl) (Nat.le_of_ble_eq_true rfl) (Nat.le_of_ble_eq_true rfl) rfl (fun v h1 d1 hq => ?_) (fun _ _ _ e => e.elim)
    rcases hq with ⟨hv, ⟨C2, M2, hh⟩, hn⟩
    · subst hv; subst hh; subst hn
      refine w_p (pc1 := 67) rfl rfl ?_
      refine w_p (pc1 := 68) (st1 := .int 3 :: _) rfl rfl ?_
      refine w_p (pc1 := 69) (st1 := .long 0 :: _) rfl rfl ?_
      refine w_ji (pc1 := 72) (vs := [.ref 176, .int 3, .long 0]) (rest := []) (pM (d := _) M2 (by omega)) rfl rfl rfl (fun _ _ => rfl) rfl (by exact cl_v my_224 rfl rfl rfl (Nat.le_of_ble_eq_true rfl) rfl (MH_obj rfl rfl) rfl (by decide) rfl rfl) (by rfl) (Nat.le_of_ble_eq_true rfl) (Nat.le_of_ble_eq_true rfl) rfl (fun v h1 d1 hq => ?_) (fun _ _ _ e => e.elim)
      rcases hq with ⟨hv, ⟨C3, M3, hh⟩, hn⟩
      · subst hv; subst hh; subst hn
        refine w_p (pc1 := 73) rfl rfl ?_
        refine w_ji (pc1 := 76) (vs := [.ref 176]) (rest := []) (nA (d := _) M3 (by rw [hx1]; exact h6)) rfl rfl rfl (fun _ _ => rfl) rfl (by exact cl_v my_195 rfl rfl rfl (Nat.le_of_ble_eq_true rfl) rfl (MH_obj rfl rfl) rfl (by decide) rfl rfl) (by rfl) (Nat.le_of_ble_eq_true rfl) (Nat.le_of_ble_eq_true rfl) rfl (fun v h1 d1 hq => ?_) (fun _ _ _ e => e.elim)
        rcases hq with ⟨hv, ⟨C4, Q4, hh⟩, hn⟩
        · subst hv; subst hh; subst hn
          refine w_p (pc1 := 77) (st1 := .int 0 :: _) rfl rfl ?_
          refine w_r rfl rfl rfl (fun _ _ => rfl) rfl ?_
          exact ⟨rfl, ⟨C4, Q4, rfl⟩, rfl⟩
set_option maxRecDepth 100000 in
theorem gm_e1 (M : MK B n C0 C p b wb (e + 1) s W) (he : e < 9) (h6 : s.1 < 600) (hk : kd B n s.1 = 57) (h1 : gin s = .inl (c, i)) : Wd L xs (d + 5) y_229 (0, [(0, .ref 176)], [], MH C t, 0) (RFM B n C0 t p b wb 2 (some (.int 0)) c i) nX := by
  have hc6 : c.toInt ≤ 6 := by unfold gin at h1; split at h1 <;> cases h1; decide
  refine w_p (pc1 := 1) rfl rfl ?_
  refine w_m0 (pc1 := 4) (st1 := .int 4 :: _) rfl rfl (h_gIe (j := 4) rfl rfl rfl rfl rfl (by rw [M.2.1.2.2.1, hk]; rfl)) rfl ?_
  refine w_p (pc1 := 5) (st1 := .int 2 :: _) rfl rfl ?_
  refine w_f (a := 18) (b := 8) rfl rfl rfl ?_
  refine w_p (pc1 := 9) rfl rfl ?_
  refine w_m0 (pc1 := 12) (st1 := .long 1853189228 :: _) rfl rfl rfl rfl ?_
  refine w_je (pc1 := 15) (vs := [.ref 176, .long 1853189228]) (rest := []) (st1 := [.int 0]) (m_205f (d := _) (sl := 0) ((wd_k (k := 27) M.2.1 (by decide) (by decide)).trans (decide_eq_false (by rw [hk]; decide)))) rfl rfl rfl (fun _ _ => rfl) rfl (by exact cl_v my_205 rfl rfl rfl (Nat.le_of_ble_eq_true rfl) rfl (MH_obj rfl rfl) rfl (by decide) rfl rfl) (by rfl) (Nat.le_of_ble_eq_true rfl) (Nat.le_of_ble_eq_true rfl) rfl (by rfl) ?_
  refine w_t (a := 49) (b := 18) rfl rfl rfl ?_
  refine w_p (pc1 := 50) rfl rfl ?_
  refine w_p (pc1 := 52) (st1 := .int 45 :: _) rfl rfl ?_
  refine w_je (pc1 := 55) (vs := [.ref 176, .int 45]) (rest := []) (st1 := [.int 1]) (m_210t (d := _) (sl := 0) (c := 45) ((sg_k (k := 57) M.2.1 (by decide) (by decide)).trans (decide_eq_true hk))) rfl rfl rfl (fun _ _ => rfl) rfl (by exact cl_v my_210 rfl rfl rfl (Nat.le_of_ble_eq_true rfl) rfl (MH_obj rfl rfl) rfl (by decide) rfl rfl) (by rfl) (Nat.le_of_ble_eq_true rfl) (Nat.le_of_ble_eq_true rfl) rfl (by rfl) ?_
  refine w_f (a := 78) (b := 58) rfl rfl rfl ?_
  refine w_p (pc1 := 59) rfl rfl ?_
  refine w_ji (pc1 := 62) (vs := [.ref 176]) (rest := []) (oE (d := _) M h1) rfl rfl rfl (fun _ _ => rfl) rfl (by exact cl_v my_225 rfl rfl rfl (Nat.le_of_ble_eq_true rfl) rfl (MH_obj rfl rfl) rfl (by decide) rfl rfl) (by rfl) (Nat.le_of_ble_eq_true rfl) (Nat.le_of_ble_eq_true rfl) rfl (fun v h1 d1 hq => ?_) (fun _ _ _ e => e.elim)
  rcases hq with ⟨hv, ⟨C1, F1, hh⟩, hn⟩
  · subst hv; subst hh; subst hn
    refine w_p (pc1 := 63) rfl rfl ?_
    refine w_ji (pc1 := 66) (vs := [.ref 176]) (rest := []) (dF (d := _) F1 hc6 (by omega)) rfl rfl rfl (fun _ _ => rfl) rfl (by exact cl_v my_226 rfl rfl rfl (Nat.le_of_ble_eq_true rfl) rfl (MH_obj rfl rfl) rfl (by decide) rfl rfl) (by rfl) (Nat.le_of_ble_eq_true rfl) (Nat.le_of_ble_eq_true rfl) rfl (fun v h1 d1 hq => ?_) (fun _ _ _ e => e.elim)
    rcases hq with ⟨hv, ⟨C2, F2, hh⟩, hn⟩
    · subst hv; subst hh; subst hn
      refine w_p (pc1 := 67) rfl rfl ?_
      refine w_p (pc1 := 68) (st1 := .int 3 :: _) rfl rfl ?_
      refine w_p (pc1 := 69) (st1 := .long 0 :: _) rfl rfl ?_
      refine w_ji (pc1 := 72) (vs := [.ref 176, .int 3, .long 0]) (rest := []) (pF (d := _) F2 (by omega)) rfl rfl rfl (fun _ _ => rfl) rfl (by exact cl_v my_224 rfl rfl rfl (Nat.le_of_ble_eq_true rfl) rfl (MH_obj rfl rfl) rfl (by decide) rfl rfl) (by rfl) (Nat.le_of_ble_eq_true rfl) (Nat.le_of_ble_eq_true rfl) rfl (fun v h1 d1 hq => ?_) (fun _ _ _ e => e.elim)
      rcases hq with ⟨hv, ⟨C3, F3, hh⟩, hn⟩
      · subst hv; subst hh; subst hn
        refine w_p (pc1 := 73) rfl rfl ?_
        refine w_ji (pc1 := 76) (vs := [.ref 176]) (rest := []) (nF (d := _) F3) rfl rfl rfl (fun _ _ => rfl) rfl (by exact cl_v my_195 rfl rfl rfl (Nat.le_of_ble_eq_true rfl) rfl (MH_obj rfl rfl) rfl (by decide) rfl rfl) (by rfl) (Nat.le_of_ble_eq_true rfl) (Nat.le_of_ble_eq_true rfl) rfl (fun v h1 d1 hq => ?_) (fun _ _ _ e => e.elim)
        rcases hq with ⟨hv, ⟨C4, F4, hh⟩, hn⟩
        · subst hv; subst hh; subst hn
          refine w_p (pc1 := 77) (st1 := .int 0 :: _) rfl rfl ?_
          refine w_r rfl rfl rfl (fun _ _ => rfl) rfl ?_
          exact ⟨rfl, ⟨C4, F4, rfl⟩, rfl⟩
set_option maxRecDepth 100000 in
theorem gm_e2 (M : MK B n C0 C p b wb (e + 1) s W) (he : e < 9) (h6 : s.1 < 600) (hk : kd B n s.1 = 57) (h1 : gin s = .inr y) (h2 : spd y = .inl (c, i)) : Wd L xs (d + 5) y_229 (0, [(0, .ref 176)], [], MH C t, 0) (RFM B n C0 t p b wb 2 (some (.int 0)) c i) nX := by
  refine w_p (pc1 := 1) rfl rfl ?_
  refine w_m0 (pc1 := 4) (st1 := .int 4 :: _) rfl rfl (h_gIe (j := 4) rfl rfl rfl rfl rfl (by rw [M.2.1.2.2.1, hk]; rfl)) rfl ?_
  refine w_p (pc1 := 5) (st1 := .int 2 :: _) rfl rfl ?_
  refine w_f (a := 18) (b := 8) rfl rfl rfl ?_
  refine w_p (pc1 := 9) rfl rfl ?_
  refine w_m0 (pc1 := 12) (st1 := .long 1853189228 :: _) rfl rfl rfl rfl ?_
  refine w_je (pc1 := 15) (vs := [.ref 176, .long 1853189228]) (rest := []) (st1 := [.int 0]) (m_205f (d := _) (sl := 0) ((wd_k (k := 27) M.2.1 (by decide) (by decide)).trans (decide_eq_false (by rw [hk]; decide)))) rfl rfl rfl (fun _ _ => rfl) rfl (by exact cl_v my_205 rfl rfl rfl (Nat.le_of_ble_eq_true rfl) rfl (MH_obj rfl rfl) rfl (by decide) rfl rfl) (by rfl) (Nat.le_of_ble_eq_true rfl) (Nat.le_of_ble_eq_true rfl) rfl (by rfl) ?_
  refine w_t (a := 49) (b := 18) rfl rfl rfl ?_
  refine w_p (pc1 := 50) rfl rfl ?_
  refine w_p (pc1 := 52) (st1 := .int 45 :: _) rfl rfl ?_
  refine w_je (pc1 := 55) (vs := [.ref 176, .int 45]) (rest := []) (st1 := [.int 1]) (m_210t (d := _) (sl := 0) (c := 45) ((sg_k (k := 57) M.2.1 (by decide) (by decide)).trans (decide_eq_true hk))) rfl rfl rfl (fun _ _ => rfl) rfl (by exact cl_v my_210 rfl rfl rfl (Nat.le_of_ble_eq_true rfl) rfl (MH_obj rfl rfl) rfl (by decide) rfl rfl) (by rfl) (Nat.le_of_ble_eq_true rfl) (Nat.le_of_ble_eq_true rfl) rfl (by rfl) ?_
  refine w_f (a := 78) (b := 58) rfl rfl rfl ?_
  refine w_p (pc1 := 59) rfl rfl ?_
  refine w_ji (pc1 := 62) (vs := [.ref 176]) (rest := []) (oM (d := _) M h1) rfl rfl rfl (fun _ _ => rfl) rfl (by exact cl_v my_225 rfl rfl rfl (Nat.le_of_ble_eq_true rfl) rfl (MH_obj rfl rfl) rfl (by decide) rfl rfl) (by rfl) (Nat.le_of_ble_eq_true rfl) (Nat.le_of_ble_eq_true rfl) rfl (fun v h1 d1 hq => ?_) (fun _ _ _ e => e.elim)
  rcases hq with ⟨hv, ⟨C1, M1, hh⟩, hn⟩
  · subst hv; subst hh; subst hn
    refine w_p (pc1 := 63) rfl rfl ?_
    refine w_ji (pc1 := 66) (vs := [.ref 176]) (rest := []) (dE (d := _) M1 h2) rfl rfl rfl (fun _ _ => rfl) rfl (by exact cl_v my_226 rfl rfl rfl (Nat.le_of_ble_eq_true rfl) rfl (MH_obj rfl rfl) rfl (by decide) rfl rfl) (by rfl) (Nat.le_of_ble_eq_true rfl) (Nat.le_of_ble_eq_true rfl) rfl (fun v h1 d1 hq => ?_) (fun _ _ _ e => e.elim)
    rcases hq with ⟨hv, ⟨C2, F2, hh⟩, hn⟩
    · subst hv; subst hh; subst hn
      refine w_p (pc1 := 67) rfl rfl ?_
      refine w_p (pc1 := 68) (st1 := .int 3 :: _) rfl rfl ?_
      refine w_p (pc1 := 69) (st1 := .long 0 :: _) rfl rfl ?_
      refine w_ji (pc1 := 72) (vs := [.ref 176, .int 3, .long 0]) (rest := []) (pF (d := _) F2 (by omega)) rfl rfl rfl (fun _ _ => rfl) rfl (by exact cl_v my_224 rfl rfl rfl (Nat.le_of_ble_eq_true rfl) rfl (MH_obj rfl rfl) rfl (by decide) rfl rfl) (by rfl) (Nat.le_of_ble_eq_true rfl) (Nat.le_of_ble_eq_true rfl) rfl (fun v h1 d1 hq => ?_) (fun _ _ _ e => e.elim)
      rcases hq with ⟨hv, ⟨C3, F3, hh⟩, hn⟩
      · subst hv; subst hh; subst hn
        refine w_p (pc1 := 73) rfl rfl ?_
        refine w_ji (pc1 := 76) (vs := [.ref 176]) (rest := []) (nF (d := _) F3) rfl rfl rfl (fun _ _ => rfl) rfl (by exact cl_v my_195 rfl rfl rfl (Nat.le_of_ble_eq_true rfl) rfl (MH_obj rfl rfl) rfl (by decide) rfl rfl) (by rfl) (Nat.le_of_ble_eq_true rfl) (Nat.le_of_ble_eq_true rfl) rfl (fun v h1 d1 hq => ?_) (fun _ _ _ e => e.elim)
        rcases hq with ⟨hv, ⟨C4, F4, hh⟩, hn⟩
        · subst hv; subst hh; subst hn
          refine w_p (pc1 := 77) (st1 := .int 0 :: _) rfl rfl ?_
          refine w_r rfl rfl rfl (fun _ _ => rfl) rfl ?_
          exact ⟨rfl, ⟨C4, F4, rfl⟩, rfl⟩
set_option maxRecDepth 100000 in
theorem gb_ok (M : MK B n C0 C p b wb (e + 1) s W) (he : e < 9) (h6 : s.1 < 600) (hk : kd B n s.1 = 44) (h1 : gin s = .inr y) : Wd L xs (d + 5) y_229 (0, [(0, .ref 176)], [], MH C t, 0) (QM B n C0 t p b wb (e + 1) (some (.int 0)) (nxt y) (W ++ [(1, 0)])) nX := by
  have hy := gin_s h1
  refine w_p (pc1 := 1) rfl rfl ?_
  refine w_m0 (pc1 := 4) (st1 := .int 4 :: _) rfl rfl (h_gIe (j := 4) rfl rfl rfl rfl rfl (by rw [M.2.1.2.2.1, hk]; rfl)) rfl ?_
  refine w_p (pc1 := 5) (st1 := .int 2 :: _) rfl rfl ?_
  refine w_f (a := 18) (b := 8) rfl rfl rfl ?_
  refine w_p (pc1 := 9) rfl rfl ?_
  refine w_m0 (pc1 := 12) (st1 := .long 1853189228 :: _) rfl rfl rfl rfl ?_
  refine w_je (pc1 := 15) (vs := [.ref 176, .long 1853189228]) (rest := []) (st1 := [.int 0]) (m_205f (d := _) (sl := 0) ((wd_k (k := 27) M.2.1 (by decide) (by decide)).trans (decide_eq_false (by rw [hk]; decide)))) rfl rfl rfl (fun _ _ => rfl) rfl (by exact cl_v my_205 rfl rfl rfl (Nat.le_of_ble_eq_true rfl) rfl (MH_obj rfl rfl) rfl (by decide) rfl rfl) (by rfl) (Nat.le_of_ble_eq_true rfl) (Nat.le_of_ble_eq_true rfl) rfl (by rfl) ?_
  refine w_t (a := 49) (b := 18) rfl rfl rfl ?_
  refine w_p (pc1 := 50) rfl rfl ?_
  refine w_p (pc1 := 52) (st1 := .int 45 :: _) rfl rfl ?_
  refine w_je (pc1 := 55) (vs := [.ref 176, .int 45]) (rest := []) (st1 := [.int 0]) (m_210f (d := _) (sl := 0) (c := 45) ((sg_k (k := 57) M.2.1 (by decide) (by decide)).trans (decide_eq_false (by rw [hk]; decide)))) rfl rfl rfl (fun _ _ => rfl) rfl (by exact cl_v my_210 rfl rfl rfl (Nat.le_of_ble_eq_true rfl) rfl (MH_obj rfl rfl) rfl (by decide) rfl rfl) (by rfl) (Nat.le_of_ble_eq_true rfl) (Nat.le_of_ble_eq_true rfl) rfl (by rfl) ?_
  refine w_t (a := 78) (b := 58) rfl rfl rfl ?_
  refine w_p (pc1 := 79) rfl rfl ?_
  refine w_p (pc1 := 81) (st1 := .int 40 :: _) rfl rfl ?_
  refine w_je (pc1 := 84) (vs := [.ref 176, .int 40]) (rest := []) (st1 := [.int 1]) (m_210t (d := _) (sl := 0) (c := 40) ((sg_k (k := 44) M.2.1 (by decide) (by decide)).trans (decide_eq_true hk))) rfl rfl rfl (fun _ _ => rfl) rfl (by exact cl_v my_210 rfl rfl rfl (Nat.le_of_ble_eq_true rfl) rfl (MH_obj rfl rfl) rfl (by decide) rfl rfl) (by rfl) (Nat.le_of_ble_eq_true rfl) (Nat.le_of_ble_eq_true rfl) rfl (by rfl) ?_
  refine w_f (a := 103) (b := 87) rfl rfl rfl ?_
  refine w_p (pc1 := 88) rfl rfl ?_
  refine w_ji (pc1 := 91) (vs := [.ref 176]) (rest := []) (oM (d := _) M h1) rfl rfl rfl (fun _ _ => rfl) rfl (by exact cl_v my_225 rfl rfl rfl (Nat.le_of_ble_eq_true rfl) rfl (MH_obj rfl rfl) rfl (by decide) rfl rfl) (by rfl) (Nat.le_of_ble_eq_true rfl) (Nat.le_of_ble_eq_true rfl) rfl (fun v h1 d1 hq => ?_) (fun _ _ _ e => e.elim)
  rcases hq with ⟨hv, ⟨C1, M1, hh⟩, hn⟩
  · subst hv; subst hh; subst hn
    refine w_p (pc1 := 92) rfl rfl ?_
    refine w_p (pc1 := 93) (st1 := .int 1 :: _) rfl rfl ?_
    refine w_p (pc1 := 94) (st1 := .long 0 :: _) rfl rfl ?_
    refine w_ji (pc1 := 97) (vs := [.ref 176, .int 1, .long 0]) (rest := []) (pM (d := _) M1 (by omega)) rfl rfl rfl (fun _ _ => rfl) rfl (by exact cl_v my_224 rfl rfl rfl (Nat.le_of_ble_eq_true rfl) rfl (MH_obj rfl rfl) rfl (by decide) rfl rfl) (by rfl) (Nat.le_of_ble_eq_true rfl) (Nat.le_of_ble_eq_true rfl) rfl (fun v h1 d1 hq => ?_) (fun _ _ _ e => e.elim)
    rcases hq with ⟨hv, ⟨C2, M2, hh⟩, hn⟩
    · subst hv; subst hh; subst hn
      refine w_p (pc1 := 98) rfl rfl ?_
      refine w_ji (pc1 := 101) (vs := [.ref 176]) (rest := []) (nA (d := _) M2 (by rw [hy.1]; exact h6)) rfl rfl rfl (fun _ _ => rfl) rfl (by exact cl_v my_195 rfl rfl rfl (Nat.le_of_ble_eq_true rfl) rfl (MH_obj rfl rfl) rfl (by decide) rfl rfl) (by rfl) (Nat.le_of_ble_eq_true rfl) (Nat.le_of_ble_eq_true rfl) rfl (fun v h1 d1 hq => ?_) (fun _ _ _ e => e.elim)
      rcases hq with ⟨hv, ⟨C3, Q3, hh⟩, hn⟩
      · subst hv; subst hh; subst hn
        refine w_p (pc1 := 102) (st1 := .int 0 :: _) rfl rfl ?_
        refine w_r rfl rfl rfl (fun _ _ => rfl) rfl ?_
        exact ⟨rfl, ⟨C3, Q3, rfl⟩, rfl⟩
set_option maxRecDepth 100000 in
theorem gb_er (M : MK B n C0 C p b wb (e + 1) s W) (he : e < 9) (h6 : s.1 < 600) (hk : kd B n s.1 = 44) (h1 : gin s = .inl (c, i)) : Wd L xs (d + 5) y_229 (0, [(0, .ref 176)], [], MH C t, 0) (RFM B n C0 t p b wb 1 (some (.int 0)) c i) nX := by
  refine w_p (pc1 := 1) rfl rfl ?_
  refine w_m0 (pc1 := 4) (st1 := .int 4 :: _) rfl rfl (h_gIe (j := 4) rfl rfl rfl rfl rfl (by rw [M.2.1.2.2.1, hk]; rfl)) rfl ?_
  refine w_p (pc1 := 5) (st1 := .int 2 :: _) rfl rfl ?_
  refine w_f (a := 18) (b := 8) rfl rfl rfl ?_
  refine w_p (pc1 := 9) rfl rfl ?_
  refine w_m0 (pc1 := 12) (st1 := .long 1853189228 :: _) rfl rfl rfl rfl ?_
  refine w_je (pc1 := 15) (vs := [.ref 176, .long 1853189228]) (rest := []) (st1 := [.int 0]) (m_205f (d := _) (sl := 0) ((wd_k (k := 27) M.2.1 (by decide) (by decide)).trans (decide_eq_false (by rw [hk]; decide)))) rfl rfl rfl (fun _ _ => rfl) rfl (by exact cl_v my_205 rfl rfl rfl (Nat.le_of_ble_eq_true rfl) rfl (MH_obj rfl rfl) rfl (by decide) rfl rfl) (by rfl) (Nat.le_of_ble_eq_true rfl) (Nat.le_of_ble_eq_true rfl) rfl (by rfl) ?_
  refine w_t (a := 49) (b := 18) rfl rfl rfl ?_
  refine w_p (pc1 := 50) rfl rfl ?_
  refine w_p (pc1 := 52) (st1 := .int 45 :: _) rfl rfl ?_
  refine w_je (pc1 := 55) (vs := [.ref 176, .int 45]) (rest := []) (st1 := [.int 0]) (m_210f (d := _) (sl := 0) (c := 45) ((sg_k (k := 57) M.2.1 (by decide) (by decide)).trans (decide_eq_false (by rw [hk]; decide)))) rfl rfl rfl (fun _ _ => rfl) rfl (by exact cl_v my_210 rfl rfl rfl (Nat.le_of_ble_eq_true rfl) rfl (MH_obj rfl rfl) rfl (by decide) rfl rfl) (by rfl) (Nat.le_of_ble_eq_true rfl) (Nat.le_of_ble_eq_true rfl) rfl (by rfl) ?_
  refine w_t (a := 78) (b := 58) rfl rfl rfl ?_
  refine w_p (pc1 := 79) rfl rfl ?_
  refine w_p (pc1 := 81) (st1 := .int 40 :: _) rfl rfl ?_
  refine w_je (pc1 := 84) (vs := [.ref 176, .int 40]) (rest := []) (st1 := [.int 1]) (m_210t (d := _) (sl := 0) (c := 40) ((sg_k (k := 44) M.2.1 (by decide) (by decide)).trans (decide_eq_true hk))) rfl rfl rfl (fun _ _ => rfl) rfl (by exact cl_v my_210 rfl rfl rfl (Nat.le_of_ble_eq_true rfl) rfl (MH_obj rfl rfl) rfl (by decide) rfl rfl) (by rfl) (Nat.le_of_ble_eq_true rfl) (Nat.le_of_ble_eq_true rfl) rfl (by rfl) ?_
  refine w_f (a := 103) (b := 87) rfl rfl rfl ?_
  refine w_p (pc1 := 88) rfl rfl ?_
  refine w_ji (pc1 := 91) (vs := [.ref 176]) (rest := []) (oE (d := _) M h1) rfl rfl rfl (fun _ _ => rfl) rfl (by exact cl_v my_225 rfl rfl rfl (Nat.le_of_ble_eq_true rfl) rfl (MH_obj rfl rfl) rfl (by decide) rfl rfl) (by rfl) (Nat.le_of_ble_eq_true rfl) (Nat.le_of_ble_eq_true rfl) rfl (fun v h1 d1 hq => ?_) (fun _ _ _ e => e.elim)
  rcases hq with ⟨hv, ⟨C1, F1, hh⟩, hn⟩
  · subst hv; subst hh; subst hn
    refine w_p (pc1 := 92) rfl rfl ?_
    refine w_p (pc1 := 93) (st1 := .int 1 :: _) rfl rfl ?_
    refine w_p (pc1 := 94) (st1 := .long 0 :: _) rfl rfl ?_
    refine w_ji (pc1 := 97) (vs := [.ref 176, .int 1, .long 0]) (rest := []) (pF (d := _) F1 (by omega)) rfl rfl rfl (fun _ _ => rfl) rfl (by exact cl_v my_224 rfl rfl rfl (Nat.le_of_ble_eq_true rfl) rfl (MH_obj rfl rfl) rfl (by decide) rfl rfl) (by rfl) (Nat.le_of_ble_eq_true rfl) (Nat.le_of_ble_eq_true rfl) rfl (fun v h1 d1 hq => ?_) (fun _ _ _ e => e.elim)
    rcases hq with ⟨hv, ⟨C2, F2, hh⟩, hn⟩
    · subst hv; subst hh; subst hn
      refine w_p (pc1 := 98) rfl rfl ?_
      refine w_ji (pc1 := 101) (vs := [.ref 176]) (rest := []) (nF (d := _) F2) rfl rfl rfl (fun _ _ => rfl) rfl (by exact cl_v my_195 rfl rfl rfl (Nat.le_of_ble_eq_true rfl) rfl (MH_obj rfl rfl) rfl (by decide) rfl rfl) (by rfl) (Nat.le_of_ble_eq_true rfl) (Nat.le_of_ble_eq_true rfl) rfl (fun v h1 d1 hq => ?_) (fun _ _ _ e => e.elim)
      rcases hq with ⟨hv, ⟨C3, F3, hh⟩, hn⟩
      · subst hv; subst hh; subst hn
        refine w_p (pc1 := 102) (st1 := .int 0 :: _) rfl rfl ?_
        refine w_r rfl rfl rfl (fun _ _ => rfl) rfl ?_
        exact ⟨rfl, ⟨C3, F3, rfl⟩, rfl⟩
end MFC
