/-! FORMULAS, 8: units; and all of it -/
section UNT
variable {L : Nat} {xs : Nat → Int32} {t : ab_H} {d n m : Nat} {B : Nat → Nat} {C0 C : co_T} {E : fe_T} {f : Nat} {s y z : fs_T} {c : Int32} {i : Nat}
set_option maxRecDepth 100000 in
theorem sw_c0 : ∀ k : Fin 60, 1 ≤ k.1 → cmo k.1 = -1 → (tk_s.getD (k.1 - 1) 0).toInt < 13 ∨ 19 < (tk_s.getD (k.1 - 1) 0).toInt := by decide +kernel
set_option maxRecDepth 100000 in
theorem sw_c (h : cmo (kd B n i) = -1) : (tk_s.getD (kd B n i - 1) 0).toInt < 13 ∨ 19 < (tk_s.getD (kd B n i - 1) 0).toInt := sw_c0 ⟨kd B n i, by have := (kd_ok (B := B) (n := n) i).2; omega⟩ (kd_ok i).1 h
set_option maxRecDepth 100000 in
theorem cR (F : FK B n m C0 C s) (h : cmo (kd B n s.1) ≠ -1) : Wd L xs (d + 1) y_68 (0, [(0, .ref 121)], [], MH C t, 0) (Rt (some (.int (cmo (kd B n s.1)))) (MH C t) 0) nX := by
  by_cases k19 : kd B n s.1 = 19
  · rw [k19]
    refine w_m0 (pc1 := 3) (st1 := .ref 61 :: _) rfl rfl rfl rfl ?_
    refine w_p (pc1 := 4) rfl rfl ?_
    refine w_m0 (pc1 := 7) rfl rfl (h_gC rfl rfl rfl rfl) rfl ?_
    refine w_m0 (pc1 := 10) (st1 := .ref 19 :: _) rfl rfl (h_gRs (j := 6) rfl rfl rfl rfl rfl (by rw [tkS_tok F.1, k19])) rfl ?_
    refine w_c (pc1 := 13) rfl rfl rfl (fun fr lo h1 h2 => n_or rfl (by decide) (by decide) h1 h2) rfl ?_
    refine w_m0 (pc1 := 14) rfl rfl (rfl) rfl ?_
    refine w_p (pc1 := 56) rfl rfl ?_
    refine w_p (pc1 := 58) (st1 := .int 7 :: _) rfl rfl ?_
    refine w_r rfl rfl rfl (fun _ _ => rfl) cr_int ?_
    exact ⟨rfl, rfl, rfl⟩
  by_cases k50 : kd B n s.1 = 50
  · rw [k50]
    refine w_m0 (pc1 := 3) (st1 := .ref 61 :: _) rfl rfl rfl rfl ?_
    refine w_p (pc1 := 4) rfl rfl ?_
    refine w_m0 (pc1 := 7) rfl rfl (h_gC rfl rfl rfl rfl) rfl ?_
    refine w_m0 (pc1 := 10) (st1 := .ref 50 :: _) rfl rfl (h_gRs (j := 6) rfl rfl rfl rfl rfl (by rw [tkS_tok F.1, k50])) rfl ?_
    refine w_c (pc1 := 13) rfl rfl rfl (fun fr lo h1 h2 => n_or rfl (by decide) (by decide) h1 h2) rfl ?_
    refine w_m0 (pc1 := 14) rfl rfl (rfl) rfl ?_
    refine w_p (pc1 := 59) rfl rfl ?_
    refine w_p (pc1 := 61) (st1 := .int 13 :: _) rfl rfl ?_
    refine w_r rfl rfl rfl (fun _ _ => rfl) cr_int ?_
    exact ⟨rfl, rfl, rfl⟩
  by_cases k51 : kd B n s.1 = 51
  · rw [k51]
    refine w_m0 (pc1 := 3) (st1 := .ref 61 :: _) rfl rfl rfl rfl ?_
    refine w_p (pc1 := 4) rfl rfl ?_
    refine w_m0 (pc1 := 7) rfl rfl (h_gC rfl rfl rfl rfl) rfl ?_
    refine w_m0 (pc1 := 10) (st1 := .ref 51 :: _) rfl rfl (h_gRs (j := 6) rfl rfl rfl rfl rfl (by rw [tkS_tok F.1, k51])) rfl ?_
    refine w_c (pc1 := 13) rfl rfl rfl (fun fr lo h1 h2 => n_or rfl (by decide) (by decide) h1 h2) rfl ?_
    refine w_m0 (pc1 := 14) rfl rfl (rfl) rfl ?_
    refine w_p (pc1 := 62) rfl rfl ?_
    refine w_p (pc1 := 64) (st1 := .int 14 :: _) rfl rfl ?_
    refine w_r rfl rfl rfl (fun _ _ => rfl) cr_int ?_
    exact ⟨rfl, rfl, rfl⟩
  by_cases k52 : kd B n s.1 = 52
  · rw [k52]
    refine w_m0 (pc1 := 3) (st1 := .ref 61 :: _) rfl rfl rfl rfl ?_
    refine w_p (pc1 := 4) rfl rfl ?_
    refine w_m0 (pc1 := 7) rfl rfl (h_gC rfl rfl rfl rfl) rfl ?_
    refine w_m0 (pc1 := 10) (st1 := .ref 52 :: _) rfl rfl (h_gRs (j := 6) rfl rfl rfl rfl rfl (by rw [tkS_tok F.1, k52])) rfl ?_
    refine w_c (pc1 := 13) rfl rfl rfl (fun fr lo h1 h2 => n_or rfl (by decide) (by decide) h1 h2) rfl ?_
    refine w_m0 (pc1 := 14) rfl rfl (rfl) rfl ?_
    refine w_p (pc1 := 65) rfl rfl ?_
    refine w_p (pc1 := 67) (st1 := .int 15 :: _) rfl rfl ?_
    refine w_r rfl rfl rfl (fun _ _ => rfl) cr_int ?_
    exact ⟨rfl, rfl, rfl⟩
  by_cases k53 : kd B n s.1 = 53
  · rw [k53]
    refine w_m0 (pc1 := 3) (st1 := .ref 61 :: _) rfl rfl rfl rfl ?_
    refine w_p (pc1 := 4) rfl rfl ?_
    refine w_m0 (pc1 := 7) rfl rfl (h_gC rfl rfl rfl rfl) rfl ?_
    refine w_m0 (pc1 := 10) (st1 := .ref 53 :: _) rfl rfl (h_gRs (j := 6) rfl rfl rfl rfl rfl (by rw [tkS_tok F.1, k53])) rfl ?_
    refine w_c (pc1 := 13) rfl rfl rfl (fun fr lo h1 h2 => n_or rfl (by decide) (by decide) h1 h2) rfl ?_
    refine w_m0 (pc1 := 14) rfl rfl (rfl) rfl ?_
    refine w_p (pc1 := 68) rfl rfl ?_
    refine w_p (pc1 := 70) (st1 := .int 16 :: _) rfl rfl ?_
    refine w_r rfl rfl rfl (fun _ _ => rfl) cr_int ?_
    exact ⟨rfl, rfl, rfl⟩
  by_cases k54 : kd B n s.1 = 54
  · rw [k54]
    refine w_m0 (pc1 := 3) (st1 := .ref 61 :: _) rfl rfl rfl rfl ?_
    refine w_p (pc1 := 4) rfl rfl ?_
    refine w_m0 (pc1 := 7) rfl rfl (h_gC rfl rfl rfl rfl) rfl ?_
    refine w_m0 (pc1 := 10) (st1 := .ref 54 :: _) rfl rfl (h_gRs (j := 6) rfl rfl rfl rfl rfl (by rw [tkS_tok F.1, k54])) rfl ?_
    refine w_c (pc1 := 13) rfl rfl rfl (fun fr lo h1 h2 => n_or rfl (by decide) (by decide) h1 h2) rfl ?_
    refine w_m0 (pc1 := 14) rfl rfl (rfl) rfl ?_
    refine w_p (pc1 := 71) rfl rfl ?_
    refine w_p (pc1 := 73) (st1 := .int 17 :: _) rfl rfl ?_
    refine w_r rfl rfl rfl (fun _ _ => rfl) cr_int ?_
    exact ⟨rfl, rfl, rfl⟩
  by_cases k55 : kd B n s.1 = 55
  · rw [k55]
    refine w_m0 (pc1 := 3) (st1 := .ref 61 :: _) rfl rfl rfl rfl ?_
    refine w_p (pc1 := 4) rfl rfl ?_
    refine w_m0 (pc1 := 7) rfl rfl (h_gC rfl rfl rfl rfl) rfl ?_
    refine w_m0 (pc1 := 10) (st1 := .ref 55 :: _) rfl rfl (h_gRs (j := 6) rfl rfl rfl rfl rfl (by rw [tkS_tok F.1, k55])) rfl ?_
    refine w_c (pc1 := 13) rfl rfl rfl (fun fr lo h1 h2 => n_or rfl (by decide) (by decide) h1 h2) rfl ?_
    refine w_m0 (pc1 := 14) rfl rfl (rfl) rfl ?_
    refine w_p (pc1 := 74) rfl rfl ?_
    refine w_p (pc1 := 76) (st1 := .int 18 :: _) rfl rfl ?_
    refine w_r rfl rfl rfl (fun _ _ => rfl) cr_int ?_
    exact ⟨rfl, rfl, rfl⟩
  exfalso
  apply h
  unfold cmo
  rw [if_neg k19, if_neg k50, if_neg k51, if_neg k52, if_neg k53, if_neg k54, if_neg k55]
set_option maxRecDepth 100000 in
theorem cE (F : FK B n m C0 C s) (h : cmo (kd B n s.1) = -1) : Wd L xs (d + 7) y_68 (0, [(0, .ref 121)], [], MH C t, 0) nP (XFK B n m C0 t 0 2 s.1) := by
  refine w_m0 (pc1 := 3) (st1 := .ref 61 :: _) rfl rfl rfl rfl ?_
  refine w_p (pc1 := 4) rfl rfl ?_
  refine w_m0 (pc1 := 7) rfl rfl (h_gC rfl rfl rfl rfl) rfl ?_
  refine w_m0 (pc1 := 10) (st1 := .ref (kd B n s.1) :: _) rfl rfl (h_gRs (j := 6) rfl rfl rfl rfl rfl (tkS_tok F.1)) rfl ?_
  refine w_c (pc1 := 13) rfl rfl rfl (fun fr lo h1 h2 => n_or rfl (kd_ok _) (by decide) h1 h2) rfl ?_
  refine w_m0 (pc1 := 14) rfl rfl (h_sw (kd_ok _)) rfl ?_
  refine w_sd (a := 77) rfl rfl (by exact sw_c h) ?_
  refine w_p (pc1 := 78) rfl rfl ?_
  refine w_m0 (pc1 := 81) rfl rfl (h_gC rfl rfl rfl rfl) rfl ?_
  refine w_p (pc1 := 82) (st1 := .int 2 :: _) rfl rfl ?_
  refine w_ji (pc1 := 85) (vs := [.ref 101, .int 2]) (rest := []) (m_31 (d := d) (sl := 0) F.1) rfl rfl rfl (fun _ _ => rfl) rfl (by exact cl_v my_31 rfl rfl rfl (Nat.le_of_ble_eq_true rfl) rfl (MH_obj rfl rfl) rfl (by decide) rfl rfl) (by rfl) (Nat.le_of_ble_eq_true rfl) (Nat.le_of_ble_eq_true rfl) rfl (fun v h1 d1 hq => ?_) (fun a h1 d1 hq => ?_)
  · exact hq.elim
  · rcases hq with ⟨ha, hh, hn⟩
    · subst ha; subst hh; subst hn
      refine Or.inl ⟨ch_new (by decide) rfl, ?_⟩
      exact X_up F.2.2.2.2.2.2.2 F.1 ⟨rfl, rfl, rfl⟩
set_option maxRecDepth 100000 in
theorem sR_ (hE : E.1 = kd B n) (F : FK B n m C0 C s) (h : nsm E s = .inr z) : Wd L xs (d + 2) y_69 (0, [(0, .ref 121)], [], MH C t, 0) (PFK B n m C0 t 0 z) nX := by
  have hl := F.2.1
  unfold nsm at h
  rw [hE] at h
  by_cases hk : kd B n s.1 = 27
  · rw [if_pos hk] at h
    cases h
    have hkk := kne hk (by decide) (by decide)
    have F1 := FK_n F hkk.1 hkk.2
    refine w_p (pc1 := 1) rfl rfl ?_
    refine w_m0 (pc1 := 4) rfl rfl (h_gC rfl rfl rfl rfl) rfl ?_
    refine w_m0 (pc1 := 7) (st1 := .ref 27 :: _) rfl rfl rfl rfl ?_
    refine w_je (pc1 := 10) (vs := [.ref 101, .ref 27]) (rest := []) (st1 := [.int 1]) (m_44y (d := _) (sl := 0) F.1 (by decide) hk (by decide) (by decide)) rfl rfl rfl (fun _ _ => rfl) rfl (by exact cl_v my_44 rfl rfl rfl (Nat.le_of_ble_eq_true rfl) rfl (MH_obj rfl rfl) rfl (by decide) rfl rfl) (by rfl) (Nat.le_of_ble_eq_true rfl) (Nat.le_of_ble_eq_true rfl) rfl (by rfl) ?_
    refine w_p (pc1 := 11) (al1 := [(1, .int 1), (0, .ref 121)]) rfl rfl ?_
    refine w_p (pc1 := 12) rfl rfl ?_
    refine w_t (a := 25) (b := 15) rfl rfl rfl ?_
    refine w_p (pc1 := 26) rfl rfl ?_
    refine w_p (pc1 := 27) rfl rfl ?_
    refine w_f (a := 35) (b := 30) rfl rfl rfl ?_
    refine w_p (pc1 := 32) (st1 := .int 7 :: _) rfl rfl ?_
    refine w_p (pc1 := 37) rfl rfl ?_
    refine w_p (pc1 := 38) (st1 := .int 0 :: _) rfl rfl ?_
    refine w_ji (pc1 := 41) (vs := [.ref 121, .int 7, .int 0]) (rest := []) (eR (d := _) F1 (Nat.succ_le_succ hl)) rfl rfl rfl (fun _ _ => rfl) rfl (by exact cl_v my_61 rfl rfl rfl (Nat.le_of_ble_eq_true rfl) rfl (MH_obj rfl rfl) rfl (by decide) rfl rfl) (by rfl) (Nat.le_of_ble_eq_true rfl) (Nat.le_of_ble_eq_true rfl) rfl (fun v h1 d1 hq => ?_) (fun _ _ _ e => e.elim)
    rcases hq with ⟨hv, ⟨C2, F2, hh⟩, hn⟩
    · subst hv; subst hh; subst hn
      refine w_r rfl rfl rfl (fun _ _ => rfl) rfl ?_
      exact PF_i F2
  · rw [if_neg hk] at h
    obtain ⟨y, h1, h2⟩ := bnd_s h
    cases h2
    unfold xpt at h1
    rw [hE] at h1
    split at h1
    · rename_i h35
      cases h1
      refine w_p (pc1 := 1) rfl rfl ?_
      refine w_m0 (pc1 := 4) rfl rfl (h_gC rfl rfl rfl rfl) rfl ?_
      refine w_m0 (pc1 := 7) (st1 := .ref 27 :: _) rfl rfl rfl rfl ?_
      refine w_je (pc1 := 10) (vs := [.ref 101, .ref 27]) (rest := []) (st1 := [.int 0]) (m_44n (d := _) (sl := 0) F.1 (by decide) hk) rfl rfl rfl (fun _ _ => rfl) rfl (by exact cl_v my_44 rfl rfl rfl (Nat.le_of_ble_eq_true rfl) rfl (MH_obj rfl rfl) rfl (by decide) rfl rfl) (by rfl) (Nat.le_of_ble_eq_true rfl) (Nat.le_of_ble_eq_true rfl) rfl (by rfl) ?_
      refine w_p (pc1 := 11) (al1 := [(1, .int 0), (0, .ref 121)]) rfl rfl ?_
      refine w_p (pc1 := 12) rfl rfl ?_
      refine w_f (a := 25) (b := 15) rfl rfl rfl ?_
      refine w_p (pc1 := 16) rfl rfl ?_
      refine w_m0 (pc1 := 19) rfl rfl (h_gC rfl rfl rfl rfl) rfl ?_
      refine w_m0 (pc1 := 22) (st1 := .ref 35 :: _) rfl rfl rfl rfl ?_
      refine w_ji (pc1 := 25) (vs := [.ref 101, .ref 35]) (rest := []) (xR (d := _) F (by decide) h35 (by decide) (by decide)) rfl rfl rfl (fun _ _ => rfl) rfl (by exact cl_v my_38 rfl rfl rfl (Nat.le_of_ble_eq_true rfl) rfl (MH_obj rfl rfl) rfl (by decide) rfl rfl) (by rfl) (Nat.le_of_ble_eq_true rfl) (Nat.le_of_ble_eq_true rfl) rfl (fun v h1 d1 hq => ?_) (fun _ _ _ e => e.elim)
      rcases hq with ⟨hv, ⟨C1, F1, hh⟩, hn⟩
      · subst hv; subst hh; subst hn
        refine w_p (pc1 := 26) rfl rfl ?_
        refine w_p (pc1 := 27) rfl rfl ?_
        refine w_t (a := 35) (b := 30) rfl rfl rfl ?_
        refine w_p (pc1 := 37) (st1 := .int 8 :: _) rfl rfl ?_
        refine w_p (pc1 := 38) (st1 := .int 0 :: _) rfl rfl ?_
        refine w_ji (pc1 := 41) (vs := [.ref 121, .int 8, .int 0]) (rest := []) (eR (d := _) F1 (Nat.succ_le_succ hl)) rfl rfl rfl (fun _ _ => rfl) rfl (by exact cl_v my_61 rfl rfl rfl (Nat.le_of_ble_eq_true rfl) rfl (MH_obj rfl rfl) rfl (by decide) rfl rfl) (by rfl) (Nat.le_of_ble_eq_true rfl) (Nat.le_of_ble_eq_true rfl) rfl (fun v h1 d1 hq => ?_) (fun _ _ _ e => e.elim)
        rcases hq with ⟨hv, ⟨C2, F2, hh⟩, hn⟩
        · subst hv; subst hh; subst hn
          refine w_r rfl rfl rfl (fun _ _ => rfl) rfl ?_
          exact PF_i F2
    · cases h1
set_option maxRecDepth 100000 in
theorem sE_ (hE : E.1 = kd B n) (F : FK B n m C0 C s) (h : nsm E s = .inl (c, i)) : Wd L xs (d + 8) y_69 (0, [(0, .ref 121)], [], MH C t, 0) nP (XFK B n m C0 t 0 c i) := by
  unfold nsm at h
  rw [hE] at h
  by_cases hk : kd B n s.1 = 27
  · rw [if_pos hk] at h
    cases h
  · rw [if_neg hk] at h
    rcases bnd_e h with h1 | ⟨y, h1, h2⟩
    · unfold xpt at h1
      rw [hE] at h1
      split at h1
      · cases h1
      · rename_i h35
        cases h1
        refine w_p (pc1 := 1) rfl rfl ?_
        refine w_m0 (pc1 := 4) rfl rfl (h_gC rfl rfl rfl rfl) rfl ?_
        refine w_m0 (pc1 := 7) (st1 := .ref 27 :: _) rfl rfl rfl rfl ?_
        refine w_je (pc1 := 10) (vs := [.ref 101, .ref 27]) (rest := []) (st1 := [.int 0]) (m_44n (d := _) (sl := 0) F.1 (by decide) hk) rfl rfl rfl (fun _ _ => rfl) rfl (by exact cl_v my_44 rfl rfl rfl (Nat.le_of_ble_eq_true rfl) rfl (MH_obj rfl rfl) rfl (by decide) rfl rfl) (by rfl) (Nat.le_of_ble_eq_true rfl) (Nat.le_of_ble_eq_true rfl) rfl (by rfl) ?_
        refine w_p (pc1 := 11) (al1 := [(1, .int 0), (0, .ref 121)]) rfl rfl ?_
        refine w_p (pc1 := 12) rfl rfl ?_
        refine w_f (a := 25) (b := 15) rfl rfl rfl ?_
        refine w_p (pc1 := 16) rfl rfl ?_
        refine w_m0 (pc1 := 19) rfl rfl (h_gC rfl rfl rfl rfl) rfl ?_
        refine w_m0 (pc1 := 22) (st1 := .ref 35 :: _) rfl rfl rfl rfl ?_
        refine w_ji (pc1 := 25) (vs := [.ref 101, .ref 35]) (rest := []) (xE (d := _) F (by decide) h35) rfl rfl rfl (fun _ _ => rfl) rfl (by exact cl_v my_38 rfl rfl rfl (Nat.le_of_ble_eq_true rfl) rfl (MH_obj rfl rfl) rfl (by decide) rfl rfl) (by rfl) (Nat.le_of_ble_eq_true rfl) (Nat.le_of_ble_eq_true rfl) rfl (fun v h1 d1 hq => ?_) (fun a h1 d1 hq => ?_)
        · exact hq.elim
        · rcases hq with ⟨C9, f9, S9, ha, hh, hn⟩
          · subst ha; subst hh; subst hn
            refine Or.inl ⟨ch_new (by decide) rfl, ?_⟩
            exact ⟨C9, f9, S9, rfl, rfl, rfl⟩
    · cases h2
set_option maxRecDepth 100000 in
theorem u5_1 (F : FK B n m C0 C s) (hk : kd B n s.1 = 25) (h1 : gin s = .inl (c, i)) : Wd L xs (4 * (10 - s.2.2.1) + 16) y_58 (0, [(0, .ref 121)], [], MH C t, 0) nP (XFK B n m C0 t 0 c i) := by
  refine w_p (pc1 := 1) rfl rfl ?_
  refine w_m0 (pc1 := 4) rfl rfl (h_gC rfl rfl rfl rfl) rfl ?_
  refine w_m0 (pc1 := 7) (st1 := .ref (kd B n s.1) :: _) rfl rfl (h_gRs (j := 6) rfl rfl rfl rfl rfl (tkS_tok F.1)) rfl ?_
  refine w_m0 (pc1 := 10) (st1 := .ref 25 :: _) rfl rfl rfl rfl ?_
  refine w_an_y (A := 52) (Bn := 13) (ok_kd) (by decide) (hk) rfl rfl rfl ?_
  refine w_p (pc1 := 14) rfl rfl ?_
  refine w_ji (pc1 := 17) (vs := [.ref 121]) (rest := []) (gE (d := _) F h1) rfl rfl rfl (fun _ _ => rfl) rfl (by exact cl_v my_59 rfl rfl rfl (Nat.le_of_ble_eq_true rfl) rfl (MH_obj rfl rfl) rfl (by decide) rfl rfl) (by rfl) (Nat.le_of_ble_eq_true rfl) (Nat.le_of_ble_eq_true rfl) rfl (fun v h1 d1 hq => ?_) (fun a h1 d1 hq => ?_)
  · exact hq.elim
  · rcases hq with ⟨C9, f9, S9, ha, hh, hn⟩
    · subst ha; subst hh; subst hn
      refine Or.inl ⟨ch_new (by decide) rfl, ?_⟩
      exact ⟨C9, f9, S9, rfl, rfl, rfl⟩
set_option maxRecDepth 100000 in
theorem u5_2 (F : FK B n m C0 C s) (hk : kd B n s.1 = 25) (h1 : gin s = .inr y) (h2 : spd y = .inl (c, i)) : Wd L xs (4 * (10 - s.2.2.1) + 16) y_58 (0, [(0, .ref 121)], [], MH C t, 0) nP (XFK B n m C0 t 0 c i) := by
  refine w_p (pc1 := 1) rfl rfl ?_
  refine w_m0 (pc1 := 4) rfl rfl (h_gC rfl rfl rfl rfl) rfl ?_
  refine w_m0 (pc1 := 7) (st1 := .ref (kd B n s.1) :: _) rfl rfl (h_gRs (j := 6) rfl rfl rfl rfl rfl (tkS_tok F.1)) rfl ?_
  refine w_m0 (pc1 := 10) (st1 := .ref 25 :: _) rfl rfl rfl rfl ?_
  refine w_an_y (A := 52) (Bn := 13) (ok_kd) (by decide) (hk) rfl rfl rfl ?_
  refine w_p (pc1 := 14) rfl rfl ?_
  refine w_ji (pc1 := 17) (vs := [.ref 121]) (rest := []) (gR (d := _) F h1) rfl rfl rfl (fun _ _ => rfl) rfl (by exact cl_v my_59 rfl rfl rfl (Nat.le_of_ble_eq_true rfl) rfl (MH_obj rfl rfl) rfl (by decide) rfl rfl) (by rfl) (Nat.le_of_ble_eq_true rfl) (Nat.le_of_ble_eq_true rfl) rfl (fun v h1 d1 hq => ?_) (fun _ _ _ e => e.elim)
  rcases hq with ⟨hv, ⟨C1, F1, hh⟩, hn⟩
  · subst hv; subst hh; subst hn
    refine w_p (pc1 := 18) rfl rfl ?_
    refine w_ji (pc1 := 21) (vs := [.ref 121]) (rest := []) (rE (d := _) F1 h2) rfl rfl rfl (fun _ _ => rfl) rfl (by exact cl_v my_60 rfl rfl rfl (Nat.le_of_ble_eq_true rfl) rfl (MH_obj rfl rfl) rfl (by decide) rfl rfl) (by rfl) (Nat.le_of_ble_eq_true rfl) (Nat.le_of_ble_eq_true rfl) rfl (fun v h1 d1 hq => ?_) (fun a h1 d1 hq => ?_)
    · exact hq.elim
    · rcases hq with ⟨C9, f9, S9, ha, hh, hn⟩
      · subst ha; subst hh; subst hn
        refine Or.inl ⟨ch_new (by decide) rfl, ?_⟩
        exact ⟨C9, f9, S9, rfl, rfl, rfl⟩
set_option maxRecDepth 100000 in
theorem u5_3 (F : FK B n m C0 C s) {x : fs_T} (ih : Ge L xs B n m C0 t E f 5 y_58 16) (hk : kd B n s.1 = 25) (h1 : gin s = .inr y) (h2 : spd y = .inr x) (h3 : rd E f 5 (nxt x) = .inl (c, i)) (hc : c ≠ 0) : Wd L xs (4 * (10 - s.2.2.1) + 16) y_58 (0, [(0, .ref 121)], [], MH C t, 0) nP (XFK B n m C0 t 0 c i) := by
  have hy := gin_s h1
  have hx := spd_s h2
  have hx1 : x.1 = s.1 := by rw [hx.1, hy.1]
  have hxq : x.2.2.1 = s.2.2.1 + 1 := by rw [hx.2.2, hy.1]
  have hkx : kd B n x.1 ≠ 1 ∧ kd B n x.1 ≠ 2 := by rw [hx1]; exact kne hk (by decide) (by decide)
  have hq10 := hy.2
  refine w_p (pc1 := 1) rfl rfl ?_
  refine w_m0 (pc1 := 4) rfl rfl (h_gC rfl rfl rfl rfl) rfl ?_
  refine w_m0 (pc1 := 7) (st1 := .ref (kd B n s.1) :: _) rfl rfl (h_gRs (j := 6) rfl rfl rfl rfl rfl (tkS_tok F.1)) rfl ?_
  refine w_m0 (pc1 := 10) (st1 := .ref 25 :: _) rfl rfl rfl rfl ?_
  refine w_an_y (A := 52) (Bn := 13) (ok_kd) (by decide) (hk) rfl rfl rfl ?_
  refine w_p (pc1 := 14) rfl rfl ?_
  refine w_ji (pc1 := 17) (vs := [.ref 121]) (rest := []) (gR (d := _) F h1) rfl rfl rfl (fun _ _ => rfl) rfl (by exact cl_v my_59 rfl rfl rfl (Nat.le_of_ble_eq_true rfl) rfl (MH_obj rfl rfl) rfl (by decide) rfl rfl) (by rfl) (Nat.le_of_ble_eq_true rfl) (Nat.le_of_ble_eq_true rfl) rfl (fun v h1 d1 hq => ?_) (fun _ _ _ e => e.elim)
  rcases hq with ⟨hv, ⟨C1, F1, hh⟩, hn⟩
  · subst hv; subst hh; subst hn
    refine w_p (pc1 := 18) rfl rfl ?_
    refine w_ji (pc1 := 21) (vs := [.ref 121]) (rest := []) (rR (d := _) F1 h2) rfl rfl rfl (fun _ _ => rfl) rfl (by exact cl_v my_60 rfl rfl rfl (Nat.le_of_ble_eq_true rfl) rfl (MH_obj rfl rfl) rfl (by decide) rfl rfl) (by rfl) (Nat.le_of_ble_eq_true rfl) (Nat.le_of_ble_eq_true rfl) rfl (fun v h1 d1 hq => ?_) (fun _ _ _ e => e.elim)
    rcases hq with ⟨hv, ⟨C2, F2, hh⟩, hn⟩
    · subst hv; subst hh; subst hn
      refine w_p (pc1 := 22) rfl rfl ?_
      refine w_m0 (pc1 := 25) rfl rfl (h_gC rfl rfl rfl rfl) rfl ?_
      refine w_ji (pc1 := 28) (vs := [.ref 101]) (rest := []) (nR (d := _) F2 hkx) rfl rfl rfl (fun _ _ => rfl) rfl (by exact cl_v my_21 rfl rfl rfl (Nat.le_of_ble_eq_true rfl) rfl (MH_obj rfl rfl) rfl (by decide) rfl rfl) (by rfl) (Nat.le_of_ble_eq_true rfl) (Nat.le_of_ble_eq_true rfl) rfl (fun v h1 d1 hq => ?_) (fun _ _ _ e => e.elim)
      rcases hq with ⟨hv, ⟨C3, F3, hh⟩, hn⟩
      · subst hv; subst hh; subst hn
        refine w_p (pc1 := 29) rfl rfl ?_
        refine w_ji (pc1 := 32) (vs := [.ref 121]) (rest := []) (Wd_up (by have e : (nxt x).2.2.1 = s.2.2.1 + 1 := hxq; rw [e]; omega) (ih (nxt x) c i _ h3 hc F3)) rfl rfl rfl (fun _ _ => rfl) rfl (by exact cl_v my_58 rfl rfl rfl (Nat.le_of_ble_eq_true rfl) rfl (MH_obj rfl rfl) rfl (by decide) rfl rfl) (by rfl) (Nat.le_of_ble_eq_true rfl) (Nat.le_of_ble_eq_true rfl) rfl (fun v h1 d1 hq => ?_) (fun a h1 d1 hq => ?_)
        · exact hq.elim
        · rcases hq with ⟨C9, f9, S9, ha, hh, hn⟩
          · subst ha; subst hh; subst hn
            refine Or.inl ⟨ch_new (by decide) rfl, ?_⟩
            exact ⟨C9, f9, S9, rfl, rfl, rfl⟩
set_option maxRecDepth 100000 in
theorem u5_4 (F : FK B n m C0 C s) {x u : fs_T} (ih : Gr L xs B n m C0 t E f 5 y_58 16) (hk : kd B n s.1 = 25) (h1 : gin s = .inr y) (h2 : spd y = .inr x) (h3 : rd E f 5 (nxt x) = .inr u) (hz : z = gou (emt u 6 0)) : Wd L xs (4 * (10 - s.2.2.1) + 16) y_58 (0, [(0, .ref 121)], [], MH C t, 0) (PFK B n m C0 t 0 z) nX := by
  have hy := gin_s h1
  have hx := spd_s h2
  have hx1 : x.1 = s.1 := by rw [hx.1, hy.1]
  have hxq : x.2.2.1 = s.2.2.1 + 1 := by rw [hx.2.2, hy.1]
  have hkx : kd B n x.1 ≠ 1 ∧ kd B n x.1 ≠ 2 := by rw [hx1]; exact kne hk (by decide) (by decide)
  have hq10 := hy.2
  have ho := fle_o (a := 6) (b := 0) h2 (rd_fle _ _ _ _ h3)
  have hul : u.2.1.length + 1 ≤ u.1 := by
    have e1 : y.1 = s.1 := by rw [hy.1]
    have e2 : y.2.1.length = s.2.1.length := by rw [hy.1]
    have e3 := F.2.1
    have := ho.2.1
    omega
  have huq : u.2.2.1 = s.2.2.1 + 1 := by
    have := (rd_fle _ _ _ _ h3).2.2
    rw [this]
    exact hxq
  subst hz
  refine w_p (pc1 := 1) rfl rfl ?_
  refine w_m0 (pc1 := 4) rfl rfl (h_gC rfl rfl rfl rfl) rfl ?_
  refine w_m0 (pc1 := 7) (st1 := .ref (kd B n s.1) :: _) rfl rfl (h_gRs (j := 6) rfl rfl rfl rfl rfl (tkS_tok F.1)) rfl ?_
  refine w_m0 (pc1 := 10) (st1 := .ref 25 :: _) rfl rfl rfl rfl ?_
  refine w_an_y (A := 52) (Bn := 13) (ok_kd) (by decide) (hk) rfl rfl rfl ?_
  refine w_p (pc1 := 14) rfl rfl ?_
  refine w_ji (pc1 := 17) (vs := [.ref 121]) (rest := []) (gR (d := _) F h1) rfl rfl rfl (fun _ _ => rfl) rfl (by exact cl_v my_59 rfl rfl rfl (Nat.le_of_ble_eq_true rfl) rfl (MH_obj rfl rfl) rfl (by decide) rfl rfl) (by rfl) (Nat.le_of_ble_eq_true rfl) (Nat.le_of_ble_eq_true rfl) rfl (fun v h1 d1 hq => ?_) (fun _ _ _ e => e.elim)
  rcases hq with ⟨hv, ⟨C1, F1, hh⟩, hn⟩
  · subst hv; subst hh; subst hn
    refine w_p (pc1 := 18) rfl rfl ?_
    refine w_ji (pc1 := 21) (vs := [.ref 121]) (rest := []) (rR (d := _) F1 h2) rfl rfl rfl (fun _ _ => rfl) rfl (by exact cl_v my_60 rfl rfl rfl (Nat.le_of_ble_eq_true rfl) rfl (MH_obj rfl rfl) rfl (by decide) rfl rfl) (by rfl) (Nat.le_of_ble_eq_true rfl) (Nat.le_of_ble_eq_true rfl) rfl (fun v h1 d1 hq => ?_) (fun _ _ _ e => e.elim)
    rcases hq with ⟨hv, ⟨C2, F2, hh⟩, hn⟩
    · subst hv; subst hh; subst hn
      refine w_p (pc1 := 22) rfl rfl ?_
      refine w_m0 (pc1 := 25) rfl rfl (h_gC rfl rfl rfl rfl) rfl ?_
      refine w_ji (pc1 := 28) (vs := [.ref 101]) (rest := []) (nR (d := _) F2 hkx) rfl rfl rfl (fun _ _ => rfl) rfl (by exact cl_v my_21 rfl rfl rfl (Nat.le_of_ble_eq_true rfl) rfl (MH_obj rfl rfl) rfl (by decide) rfl rfl) (by rfl) (Nat.le_of_ble_eq_true rfl) (Nat.le_of_ble_eq_true rfl) rfl (fun v h1 d1 hq => ?_) (fun _ _ _ e => e.elim)
      rcases hq with ⟨hv, ⟨C3, F3, hh⟩, hn⟩
      · subst hv; subst hh; subst hn
        refine w_p (pc1 := 29) rfl rfl ?_
        refine w_ji (pc1 := 32) (vs := [.ref 121]) (rest := []) (Wd_up (by have e : (nxt x).2.2.1 = s.2.2.1 + 1 := hxq; rw [e]; omega) (ih (nxt x) u _ h3 F3)) rfl rfl rfl (fun _ _ => rfl) rfl (by exact cl_v my_58 rfl rfl rfl (Nat.le_of_ble_eq_true rfl) rfl (MH_obj rfl rfl) rfl (by decide) rfl rfl) (by rfl) (Nat.le_of_ble_eq_true rfl) (Nat.le_of_ble_eq_true rfl) rfl (fun v h1 d1 hq => ?_) (fun _ _ _ e => e.elim)
        rcases hq with ⟨hv, ⟨C4, F4, hh⟩, hn⟩
        · subst hv; subst hh; subst hn
          refine w_p (pc1 := 33) rfl rfl ?_
          refine w_p (pc1 := 35) (st1 := .int 6 :: _) rfl rfl ?_
          refine w_p (pc1 := 36) (st1 := .int 0 :: _) rfl rfl ?_
          refine w_ji (pc1 := 39) (vs := [.ref 121, .int 6, .int 0]) (rest := []) (eR (d := _) F4 hul) rfl rfl rfl (fun _ _ => rfl) rfl (by exact cl_v my_61 rfl rfl rfl (Nat.le_of_ble_eq_true rfl) rfl (MH_obj rfl rfl) rfl (by decide) rfl rfl) (by rfl) (Nat.le_of_ble_eq_true rfl) (Nat.le_of_ble_eq_true rfl) rfl (fun v h1 d1 hq => ?_) (fun _ _ _ e => e.elim)
          rcases hq with ⟨hv, ⟨C5, F5, hh⟩, hn⟩
          · subst hv; subst hh; subst hn
            refine w_p (pc1 := 40) rfl rfl ?_
            refine w_p (pc1 := 41) rfl rfl ?_
            refine w_m0 (pc1 := 44) (st1 := .int (nI ((emt u 6 0).2.2.1)) :: _) rfl rfl (h_gIe (j := 5) rfl rfl rfl rfl rfl (F5.2.2.2.2.1)) rfl ?_
            refine w_p (pc1 := 45) (st1 := .int 1 :: _) rfl rfl ?_
            refine w_isub (pc1 := 46) (u := nI ((emt u 6 0).2.2.1)) (v := nI (1)) (z := nI ((emt u 6 0).2.2.1 - 1)) rfl (nK_sub (by show 1 ≤ u.2.2.1; omega)) rfl ?_
            refine w_m0 (pc1 := 49) rfl rfl (h_pI (j := 5) rfl rfl rfl rfl rfl rfl rfl ⟨rfl, rfl⟩ rfl) rfl ?_
            refine w_p (pc1 := 146) rfl rfl ?_
            refine w_r rfl rfl rfl (fun _ _ => rfl) rfl ?_
            exact PF_i (FK_c F5 (show 1 ≤ u.2.2.1 by omega))
set_option maxRecDepth 100000 in
theorem u6_1 (F : FK B n m C0 C s) (hk : kd B n s.1 = 46) (h1 : gin s = .inl (c, i)) : Wd L xs (4 * (10 - s.2.2.1) + 16) y_58 (0, [(0, .ref 121)], [], MH C t, 0) nP (XFK B n m C0 t 0 c i) := by
  refine w_p (pc1 := 1) rfl rfl ?_
  refine w_m0 (pc1 := 4) rfl rfl (h_gC rfl rfl rfl rfl) rfl ?_
  refine w_m0 (pc1 := 7) (st1 := .ref (kd B n s.1) :: _) rfl rfl (h_gRs (j := 6) rfl rfl rfl rfl rfl (tkS_tok F.1)) rfl ?_
  refine w_m0 (pc1 := 10) (st1 := .ref 25 :: _) rfl rfl rfl rfl ?_
  refine w_an_n (A := 52) (ok_kd) (by decide) (by rw [hk]; decide) rfl rfl ?_
  refine w_p (pc1 := 53) rfl rfl ?_
  refine w_m0 (pc1 := 56) rfl rfl (h_gC rfl rfl rfl rfl) rfl ?_
  refine w_m0 (pc1 := 59) (st1 := .ref (kd B n s.1) :: _) rfl rfl (h_gRs (j := 6) rfl rfl rfl rfl rfl (tkS_tok F.1)) rfl ?_
  refine w_m0 (pc1 := 62) (st1 := .ref 46 :: _) rfl rfl rfl rfl ?_
  refine w_an_y (A := 103) (Bn := 65) (ok_kd) (by decide) (hk) rfl rfl rfl ?_
  refine w_p (pc1 := 66) rfl rfl ?_
  refine w_ji (pc1 := 69) (vs := [.ref 121]) (rest := []) (gE (d := _) F h1) rfl rfl rfl (fun _ _ => rfl) rfl (by exact cl_v my_59 rfl rfl rfl (Nat.le_of_ble_eq_true rfl) rfl (MH_obj rfl rfl) rfl (by decide) rfl rfl) (by rfl) (Nat.le_of_ble_eq_true rfl) (Nat.le_of_ble_eq_true rfl) rfl (fun v h1 d1 hq => ?_) (fun a h1 d1 hq => ?_)
  · exact hq.elim
  · rcases hq with ⟨C9, f9, S9, ha, hh, hn⟩
    · subst ha; subst hh; subst hn
      refine Or.inl ⟨ch_new (by decide) rfl, ?_⟩
      exact ⟨C9, f9, S9, rfl, rfl, rfl⟩
set_option maxRecDepth 100000 in
theorem u6_2 (F : FK B n m C0 C s) (ih : Ge L xs B n m C0 t E f 8 y_56 18) (hk : kd B n s.1 = 46) (h1 : gin s = .inr y) (h2 : rd E f 8 (nxt y) = .inl (c, i)) (hc : c ≠ 0) : Wd L xs (4 * (10 - s.2.2.1) + 16) y_58 (0, [(0, .ref 121)], [], MH C t, 0) nP (XFK B n m C0 t 0 c i) := by
  have hy := gin_s h1
  have hq10 := hy.2
  have hyq : y.2.2.1 = s.2.2.1 + 1 := by rw [hy.1]
  have hky : kd B n y.1 ≠ 1 ∧ kd B n y.1 ≠ 2 := by rw [hy.1]; exact kne hk (by decide) (by decide)
  refine w_p (pc1 := 1) rfl rfl ?_
  refine w_m0 (pc1 := 4) rfl rfl (h_gC rfl rfl rfl rfl) rfl ?_
  refine w_m0 (pc1 := 7) (st1 := .ref (kd B n s.1) :: _) rfl rfl (h_gRs (j := 6) rfl rfl rfl rfl rfl (tkS_tok F.1)) rfl ?_
  refine w_m0 (pc1 := 10) (st1 := .ref 25 :: _) rfl rfl rfl rfl ?_
  refine w_an_n (A := 52) (ok_kd) (by decide) (by rw [hk]; decide) rfl rfl ?_
  refine w_p (pc1 := 53) rfl rfl ?_
  refine w_m0 (pc1 := 56) rfl rfl (h_gC rfl rfl rfl rfl) rfl ?_
  refine w_m0 (pc1 := 59) (st1 := .ref (kd B n s.1) :: _) rfl rfl (h_gRs (j := 6) rfl rfl rfl rfl rfl (tkS_tok F.1)) rfl ?_
  refine w_m0 (pc1 := 62) (st1 := .ref 46 :: _) rfl rfl rfl rfl ?_
  refine w_an_y (A := 103) (Bn := 65) (ok_kd) (by decide) (hk) rfl rfl rfl ?_
  refine w_p (pc1 := 66) rfl rfl ?_
  refine w_ji (pc1 := 69) (vs := [.ref 121]) (rest := []) (gR (d := _) F h1) rfl rfl rfl (fun _ _ => rfl) rfl (by exact cl_v my_59 rfl rfl rfl (Nat.le_of_ble_eq_true rfl) rfl (MH_obj rfl rfl) rfl (by decide) rfl rfl) (by rfl) (Nat.le_of_ble_eq_true rfl) (Nat.le_of_ble_eq_true rfl) rfl (fun v h1 d1 hq => ?_) (fun _ _ _ e => e.elim)
  rcases hq with ⟨hv, ⟨C1, F1, hh⟩, hn⟩
  · subst hv; subst hh; subst hn
    refine w_p (pc1 := 70) rfl rfl ?_
    refine w_m0 (pc1 := 73) rfl rfl (h_gC rfl rfl rfl rfl) rfl ?_
    refine w_ji (pc1 := 76) (vs := [.ref 101]) (rest := []) (nR (d := _) F1 hky) rfl rfl rfl (fun _ _ => rfl) rfl (by exact cl_v my_21 rfl rfl rfl (Nat.le_of_ble_eq_true rfl) rfl (MH_obj rfl rfl) rfl (by decide) rfl rfl) (by rfl) (Nat.le_of_ble_eq_true rfl) (Nat.le_of_ble_eq_true rfl) rfl (fun v h1 d1 hq => ?_) (fun _ _ _ e => e.elim)
    rcases hq with ⟨hv, ⟨C2, F2, hh⟩, hn⟩
    · subst hv; subst hh; subst hn
      refine w_p (pc1 := 77) rfl rfl ?_
      refine w_ji (pc1 := 80) (vs := [.ref 121]) (rest := []) (Wd_up (by have e : (nxt y).2.2.1 = s.2.2.1 + 1 := hyq; rw [e]; omega) (ih (nxt y) c i _ h2 hc F2)) rfl rfl rfl (fun _ _ => rfl) rfl (by exact cl_v my_56 rfl rfl rfl (Nat.le_of_ble_eq_true rfl) rfl (MH_obj rfl rfl) rfl (by decide) rfl rfl) (by rfl) (Nat.le_of_ble_eq_true rfl) (Nat.le_of_ble_eq_true rfl) rfl (fun v h1 d1 hq => ?_) (fun a h1 d1 hq => ?_)
      · exact hq.elim
      · rcases hq with ⟨C9, f9, S9, ha, hh, hn⟩
        · subst ha; subst hh; subst hn
          refine Or.inl ⟨ch_new (by decide) rfl, ?_⟩
          exact ⟨C9, f9, S9, rfl, rfl, rfl⟩
set_option maxRecDepth 100000 in
theorem u6_3 (F : FK B n m C0 C s) {u : fs_T} (ih : Gr L xs B n m C0 t E f 8 y_56 18) (hk : kd B n s.1 = 46) (h1 : gin s = .inr y) (h2 : rd E f 8 (nxt y) = .inr u) (h3 : kd B n u.1 ≠ 47) (hc : c = 2) (hi : i = u.1) : Wd L xs (4 * (10 - s.2.2.1) + 16) y_58 (0, [(0, .ref 121)], [], MH C t, 0) nP (XFK B n m C0 t 0 c i) := by
  have hy := gin_s h1
  have hq10 := hy.2
  have hyq : y.2.2.1 = s.2.2.1 + 1 := by rw [hy.1]
  have hky : kd B n y.1 ≠ 1 ∧ kd B n y.1 ≠ 2 := by rw [hy.1]; exact kne hk (by decide) (by decide)
  subst hc
  subst hi
  refine w_p (pc1 := 1) rfl rfl ?_
  refine w_m0 (pc1 := 4) rfl rfl (h_gC rfl rfl rfl rfl) rfl ?_
  refine w_m0 (pc1 := 7) (st1 := .ref (kd B n s.1) :: _) rfl rfl (h_gRs (j := 6) rfl rfl rfl rfl rfl (tkS_tok F.1)) rfl ?_
  refine w_m0 (pc1 := 10) (st1 := .ref 25 :: _) rfl rfl rfl rfl ?_
  refine w_an_n (A := 52) (ok_kd) (by decide) (by rw [hk]; decide) rfl rfl ?_
  refine w_p (pc1 := 53) rfl rfl ?_
  refine w_m0 (pc1 := 56) rfl rfl (h_gC rfl rfl rfl rfl) rfl ?_
  refine w_m0 (pc1 := 59) (st1 := .ref (kd B n s.1) :: _) rfl rfl (h_gRs (j := 6) rfl rfl rfl rfl rfl (tkS_tok F.1)) rfl ?_
  refine w_m0 (pc1 := 62) (st1 := .ref 46 :: _) rfl rfl rfl rfl ?_
  refine w_an_y (A := 103) (Bn := 65) (ok_kd) (by decide) (hk) rfl rfl rfl ?_
  refine w_p (pc1 := 66) rfl rfl ?_
  refine w_ji (pc1 := 69) (vs := [.ref 121]) (rest := []) (gR (d := _) F h1) rfl rfl rfl (fun _ _ => rfl) rfl (by exact cl_v my_59 rfl rfl rfl (Nat.le_of_ble_eq_true rfl) rfl (MH_obj rfl rfl) rfl (by decide) rfl rfl) (by rfl) (Nat.le_of_ble_eq_true rfl) (Nat.le_of_ble_eq_true rfl) rfl (fun v h1 d1 hq => ?_) (fun _ _ _ e => e.elim)
  rcases hq with ⟨hv, ⟨C1, F1, hh⟩, hn⟩
  · subst hv; subst hh; subst hn
    refine w_p (pc1 := 70) rfl rfl ?_
    refine w_m0 (pc1 := 73) rfl rfl (h_gC rfl rfl rfl rfl) rfl ?_
    refine w_ji (pc1 := 76) (vs := [.ref 101]) (rest := []) (nR (d := _) F1 hky) rfl rfl rfl (fun _ _ => rfl) rfl (by exact cl_v my_21 rfl rfl rfl (Nat.le_of_ble_eq_true rfl) rfl (MH_obj rfl rfl) rfl (by decide) rfl rfl) (by rfl) (Nat.le_of_ble_eq_true rfl) (Nat.le_of_ble_eq_true rfl) rfl (fun v h1 d1 hq => ?_) (fun _ _ _ e => e.elim)
    rcases hq with ⟨hv, ⟨C2, F2, hh⟩, hn⟩
    · subst hv; subst hh; subst hn
      refine w_p (pc1 := 77) rfl rfl ?_
      refine w_ji (pc1 := 80) (vs := [.ref 121]) (rest := []) (Wd_up (by have e : (nxt y).2.2.1 = s.2.2.1 + 1 := hyq; rw [e]; omega) (ih (nxt y) u _ h2 F2)) rfl rfl rfl (fun _ _ => rfl) rfl (by exact cl_v my_56 rfl rfl rfl (Nat.le_of_ble_eq_true rfl) rfl (MH_obj rfl rfl) rfl (by decide) rfl rfl) (by rfl) (Nat.le_of_ble_eq_true rfl) (Nat.le_of_ble_eq_true rfl) rfl (fun v h1 d1 hq => ?_) (fun _ _ _ e => e.elim)
      rcases hq with ⟨hv, ⟨C3, F3, hh⟩, hn⟩
      · subst hv; subst hh; subst hn
        refine w_p (pc1 := 81) rfl rfl ?_
        refine w_m0 (pc1 := 84) rfl rfl (h_gC rfl rfl rfl rfl) rfl ?_
        refine w_m0 (pc1 := 87) (st1 := .ref 47 :: _) rfl rfl rfl rfl ?_
        refine w_ji (pc1 := 90) (vs := [.ref 101, .ref 47]) (rest := []) (xE (d := _) F3 (by decide) h3) rfl rfl rfl (fun _ _ => rfl) rfl (by exact cl_v my_38 rfl rfl rfl (Nat.le_of_ble_eq_true rfl) rfl (MH_obj rfl rfl) rfl (by decide) rfl rfl) (by rfl) (Nat.le_of_ble_eq_true rfl) (Nat.le_of_ble_eq_true rfl) rfl (fun v h1 d1 hq => ?_) (fun a h1 d1 hq => ?_)
        · exact hq.elim
        · rcases hq with ⟨C9, f9, S9, ha, hh, hn⟩
          · subst ha; subst hh; subst hn
            refine Or.inl ⟨ch_new (by decide) rfl, ?_⟩
            exact ⟨C9, f9, S9, rfl, rfl, rfl⟩
set_option maxRecDepth 100000 in
theorem u6_4 (F : FK B n m C0 C s) {u : fs_T} (ih : Gr L xs B n m C0 t E f 8 y_56 18) (hk : kd B n s.1 = 46) (h1 : gin s = .inr y) (h2 : rd E f 8 (nxt y) = .inr u) (h3 : kd B n u.1 = 47) (hz : z = gou (nxt u)) : Wd L xs (4 * (10 - s.2.2.1) + 16) y_58 (0, [(0, .ref 121)], [], MH C t, 0) (PFK B n m C0 t 0 z) nX := by
  have hy := gin_s h1
  have hq10 := hy.2
  have hyq : y.2.2.1 = s.2.2.1 + 1 := by rw [hy.1]
  have hky : kd B n y.1 ≠ 1 ∧ kd B n y.1 ≠ 2 := by rw [hy.1]; exact kne hk (by decide) (by decide)
  have huq : u.2.2.1 = s.2.2.1 + 1 := by
    have := (rd_fle _ _ _ _ h2).2.2
    rw [this]
    exact hyq
  subst hz
  refine w_p (pc1 := 1) rfl rfl ?_
  refine w_m0 (pc1 := 4) rfl rfl (h_gC rfl rfl rfl rfl) rfl ?_
  refine w_m0 (pc1 := 7) (st1 := .ref (kd B n s.1) :: _) rfl rfl (h_gRs (j := 6) rfl rfl rfl rfl rfl (tkS_tok F.1)) rfl ?_
  refine w_m0 (pc1 := 10) (st1 := .ref 25 :: _) rfl rfl rfl rfl ?_
  refine w_an_n (A := 52) (ok_kd) (by decide) (by rw [hk]; decide) rfl rfl ?_
  refine w_p (pc1 := 53) rfl rfl ?_
  refine w_m0 (pc1 := 56) rfl rfl (h_gC rfl rfl rfl rfl) rfl ?_
  refine w_m0 (pc1 := 59) (st1 := .ref (kd B n s.1) :: _) rfl rfl (h_gRs (j := 6) rfl rfl rfl rfl rfl (tkS_tok F.1)) rfl ?_
  refine w_m0 (pc1 := 62) (st1 := .ref 46 :: _) rfl rfl rfl rfl ?_
  refine w_an_y (A := 103) (Bn := 65) (ok_kd) (by decide) (hk) rfl rfl rfl ?_
  refine w_p (pc1 := 66) rfl rfl ?_
  refine w_ji (pc1 := 69) (vs := [.ref 121]) (rest := []) (gR (d := _) F h1) rfl rfl rfl (fun _ _ => rfl) rfl (by exact cl_v my_59 rfl rfl rfl (Nat.le_of_ble_eq_true rfl) rfl (MH_obj rfl rfl) rfl (by decide) rfl rfl) (by rfl) (Nat.le_of_ble_eq_true rfl) (Nat.le_of_ble_eq_true rfl) rfl (fun v h1 d1 hq => ?_) (fun _ _ _ e => e.elim)
  rcases hq with ⟨hv, ⟨C1, F1, hh⟩, hn⟩
  · subst hv; subst hh; subst hn
    refine w_p (pc1 := 70) rfl rfl ?_
    refine w_m0 (pc1 := 73) rfl rfl (h_gC rfl rfl rfl rfl) rfl ?_
    refine w_ji (pc1 := 76) (vs := [.ref 101]) (rest := []) (nR (d := _) F1 hky) rfl rfl rfl (fun _ _ => rfl) rfl (by exact cl_v my_21 rfl rfl rfl (Nat.le_of_ble_eq_true rfl) rfl (MH_obj rfl rfl) rfl (by decide) rfl rfl) (by rfl) (Nat.le_of_ble_eq_true rfl) (Nat.le_of_ble_eq_true rfl) rfl (fun v h1 d1 hq => ?_) (fun _ _ _ e => e.elim)
    rcases hq with ⟨hv, ⟨C2, F2, hh⟩, hn⟩
    · subst hv; subst hh; subst hn
      refine w_p (pc1 := 77) rfl rfl ?_
      refine w_ji (pc1 := 80) (vs := [.ref 121]) (rest := []) (Wd_up (by have e : (nxt y).2.2.1 = s.2.2.1 + 1 := hyq; rw [e]; omega) (ih (nxt y) u _ h2 F2)) rfl rfl rfl (fun _ _ => rfl) rfl (by exact cl_v my_56 rfl rfl rfl (Nat.le_of_ble_eq_true rfl) rfl (MH_obj rfl rfl) rfl (by decide) rfl rfl) (by rfl) (Nat.le_of_ble_eq_true rfl) (Nat.le_of_ble_eq_true rfl) rfl (fun v h1 d1 hq => ?_) (fun _ _ _ e => e.elim)
      rcases hq with ⟨hv, ⟨C3, F3, hh⟩, hn⟩
      · subst hv; subst hh; subst hn
        refine w_p (pc1 := 81) rfl rfl ?_
        refine w_m0 (pc1 := 84) rfl rfl (h_gC rfl rfl rfl rfl) rfl ?_
        refine w_m0 (pc1 := 87) (st1 := .ref 47 :: _) rfl rfl rfl rfl ?_
        refine w_ji (pc1 := 90) (vs := [.ref 101, .ref 47]) (rest := []) (xR (d := _) F3 (by decide) h3 (by decide) (by decide)) rfl rfl rfl (fun _ _ => rfl) rfl (by exact cl_v my_38 rfl rfl rfl (Nat.le_of_ble_eq_true rfl) rfl (MH_obj rfl rfl) rfl (by decide) rfl rfl) (by rfl) (Nat.le_of_ble_eq_true rfl) (Nat.le_of_ble_eq_true rfl) rfl (fun v h1 d1 hq => ?_) (fun _ _ _ e => e.elim)
        rcases hq with ⟨hv, ⟨C4, F4, hh⟩, hn⟩
        · subst hv; subst hh; subst hn
          refine w_p (pc1 := 91) rfl rfl ?_
          refine w_p (pc1 := 92) rfl rfl ?_
          refine w_m0 (pc1 := 95) (st1 := .int (nI ((nxt u).2.2.1)) :: _) rfl rfl (h_gIe (j := 5) rfl rfl rfl rfl rfl (F4.2.2.2.2.1)) rfl ?_
          refine w_p (pc1 := 96) (st1 := .int 1 :: _) rfl rfl ?_
          refine w_isub (pc1 := 97) (u := nI ((nxt u).2.2.1)) (v := nI (1)) (z := nI ((nxt u).2.2.1 - 1)) rfl (nK_sub (by show 1 ≤ u.2.2.1; omega)) rfl ?_
          refine w_m0 (pc1 := 100) rfl rfl (h_pI (j := 5) rfl rfl rfl rfl rfl rfl rfl ⟨rfl, rfl⟩ rfl) rfl ?_
          refine w_p (pc1 := 146) rfl rfl ?_
          refine w_r rfl rfl rfl (fun _ _ => rfl) rfl ?_
          exact PF_i (FK_c F4 (show 1 ≤ u.2.2.1 by omega))
set_option maxRecDepth 100000 in
theorem uc_1 (F : FK B n m C0 C s) (jh : Ge L xs B n m C0 t E f 3 y_62 14) (hk : kd B n s.1 ≠ 25) (hk2 : kd B n s.1 ≠ 46) (h1 : rd E f 3 s = .inl (c, i)) (hc : c ≠ 0) : Wd L xs (4 * (10 - s.2.2.1) + 16) y_58 (0, [(0, .ref 121)], [], MH C t, 0) nP (XFK B n m C0 t 0 c i) := by
  refine w_p (pc1 := 1) rfl rfl ?_
  refine w_m0 (pc1 := 4) rfl rfl (h_gC rfl rfl rfl rfl) rfl ?_
  refine w_m0 (pc1 := 7) (st1 := .ref (kd B n s.1) :: _) rfl rfl (h_gRs (j := 6) rfl rfl rfl rfl rfl (tkS_tok F.1)) rfl ?_
  refine w_m0 (pc1 := 10) (st1 := .ref 25 :: _) rfl rfl rfl rfl ?_
  refine w_an_n (A := 52) (ok_kd) (by decide) (hk) rfl rfl ?_
  refine w_p (pc1 := 53) rfl rfl ?_
  refine w_m0 (pc1 := 56) rfl rfl (h_gC rfl rfl rfl rfl) rfl ?_
  refine w_m0 (pc1 := 59) (st1 := .ref (kd B n s.1) :: _) rfl rfl (h_gRs (j := 6) rfl rfl rfl rfl rfl (tkS_tok F.1)) rfl ?_
  refine w_m0 (pc1 := 62) (st1 := .ref 46 :: _) rfl rfl rfl rfl ?_
  refine w_an_n (A := 103) (ok_kd) (by decide) (hk2) rfl rfl ?_
  refine w_p (pc1 := 104) rfl rfl ?_
  refine w_ji (pc1 := 107) (vs := [.ref 121]) (rest := []) (Wd_up (by omega) (jh s c i _ h1 hc F)) rfl rfl rfl (fun _ _ => rfl) rfl (by exact cl_v my_62 rfl rfl rfl (Nat.le_of_ble_eq_true rfl) rfl (MH_obj rfl rfl) rfl (by decide) rfl rfl) (by rfl) (Nat.le_of_ble_eq_true rfl) (Nat.le_of_ble_eq_true rfl) rfl (fun v h1 d1 hq => ?_) (fun a h1 d1 hq => ?_)
  · exact hq.elim
  · rcases hq with ⟨C9, f9, S9, ha, hh, hn⟩
    · subst ha; subst hh; subst hn
      refine Or.inl ⟨ch_new (by decide) rfl, ?_⟩
      exact ⟨C9, f9, S9, rfl, rfl, rfl⟩
set_option maxRecDepth 100000 in
theorem uc_2 (F : FK B n m C0 C s) (ih : Gr L xs B n m C0 t E f 3 y_62 14) (hk : kd B n s.1 ≠ 25) (hk2 : kd B n s.1 ≠ 46) (h1 : rd E f 3 s = .inr y) (h2 : cmo (kd B n y.1) = -1) (hc : c = 2) (hi : i = y.1) : Wd L xs (4 * (10 - s.2.2.1) + 16) y_58 (0, [(0, .ref 121)], [], MH C t, 0) nP (XFK B n m C0 t 0 c i) := by
  subst hc
  subst hi
  refine w_p (pc1 := 1) rfl rfl ?_
  refine w_m0 (pc1 := 4) rfl rfl (h_gC rfl rfl rfl rfl) rfl ?_
  refine w_m0 (pc1 := 7) (st1 := .ref (kd B n s.1) :: _) rfl rfl (h_gRs (j := 6) rfl rfl rfl rfl rfl (tkS_tok F.1)) rfl ?_
  refine w_m0 (pc1 := 10) (st1 := .ref 25 :: _) rfl rfl rfl rfl ?_
  refine w_an_n (A := 52) (ok_kd) (by decide) (hk) rfl rfl ?_
  refine w_p (pc1 := 53) rfl rfl ?_
  refine w_m0 (pc1 := 56) rfl rfl (h_gC rfl rfl rfl rfl) rfl ?_
  refine w_m0 (pc1 := 59) (st1 := .ref (kd B n s.1) :: _) rfl rfl (h_gRs (j := 6) rfl rfl rfl rfl rfl (tkS_tok F.1)) rfl ?_
  refine w_m0 (pc1 := 62) (st1 := .ref 46 :: _) rfl rfl rfl rfl ?_
  refine w_an_n (A := 103) (ok_kd) (by decide) (hk2) rfl rfl ?_
  refine w_p (pc1 := 104) rfl rfl ?_
  refine w_ji (pc1 := 107) (vs := [.ref 121]) (rest := []) (Wd_up (by omega) (ih s y _ h1 F)) rfl rfl rfl (fun _ _ => rfl) rfl (by exact cl_v my_62 rfl rfl rfl (Nat.le_of_ble_eq_true rfl) rfl (MH_obj rfl rfl) rfl (by decide) rfl rfl) (by rfl) (Nat.le_of_ble_eq_true rfl) (Nat.le_of_ble_eq_true rfl) rfl (fun v h1 d1 hq => ?_) (fun _ _ _ e => e.elim)
  rcases hq with ⟨hv, ⟨C1, F1, hh⟩, hn⟩
  · subst hv; subst hh; subst hn
    refine w_p (pc1 := 108) rfl rfl ?_
    refine w_ji (pc1 := 111) (vs := [.ref 121]) (rest := []) (cE (d := _) F1 h2) rfl rfl rfl (fun _ _ => rfl) rfl (by exact cl_v my_68 rfl rfl rfl (Nat.le_of_ble_eq_true rfl) rfl (MH_obj rfl rfl) rfl (by decide) rfl rfl) (by rfl) (Nat.le_of_ble_eq_true rfl) (Nat.le_of_ble_eq_true rfl) rfl (fun v h1 d1 hq => ?_) (fun a h1 d1 hq => ?_)
    · exact hq.elim
    · rcases hq with ⟨C9, f9, S9, ha, hh, hn⟩
      · subst ha; subst hh; subst hn
        refine Or.inl ⟨ch_new (by decide) rfl, ?_⟩
        exact ⟨C9, f9, S9, rfl, rfl, rfl⟩
set_option maxRecDepth 100000 in
theorem uc_3 (F : FK B n m C0 C s) (ih : Gr L xs B n m C0 t E f 3 y_62 14) (hk : kd B n s.1 ≠ 25) (hk2 : kd B n s.1 ≠ 46) (h1 : rd E f 3 s = .inr y) (hcm : cmo (kd B n y.1) ≠ -1) (h2 : spd y = .inl (c, i)) : Wd L xs (4 * (10 - s.2.2.1) + 16) y_58 (0, [(0, .ref 121)], [], MH C t, 0) nP (XFK B n m C0 t 0 c i) := by
  refine w_p (pc1 := 1) rfl rfl ?_
  refine w_m0 (pc1 := 4) rfl rfl (h_gC rfl rfl rfl rfl) rfl ?_
  refine w_m0 (pc1 := 7) (st1 := .ref (kd B n s.1) :: _) rfl rfl (h_gRs (j := 6) rfl rfl rfl rfl rfl (tkS_tok F.1)) rfl ?_
  refine w_m0 (pc1 := 10) (st1 := .ref 25 :: _) rfl rfl rfl rfl ?_
  refine w_an_n (A := 52) (ok_kd) (by decide) (hk) rfl rfl ?_
  refine w_p (pc1 := 53) rfl rfl ?_
  refine w_m0 (pc1 := 56) rfl rfl (h_gC rfl rfl rfl rfl) rfl ?_
  refine w_m0 (pc1 := 59) (st1 := .ref (kd B n s.1) :: _) rfl rfl (h_gRs (j := 6) rfl rfl rfl rfl rfl (tkS_tok F.1)) rfl ?_
  refine w_m0 (pc1 := 62) (st1 := .ref 46 :: _) rfl rfl rfl rfl ?_
  refine w_an_n (A := 103) (ok_kd) (by decide) (hk2) rfl rfl ?_
  refine w_p (pc1 := 104) rfl rfl ?_
  refine w_ji (pc1 := 107) (vs := [.ref 121]) (rest := []) (Wd_up (by omega) (ih s y _ h1 F)) rfl rfl rfl (fun _ _ => rfl) rfl (by exact cl_v my_62 rfl rfl rfl (Nat.le_of_ble_eq_true rfl) rfl (MH_obj rfl rfl) rfl (by decide) rfl rfl) (by rfl) (Nat.le_of_ble_eq_true rfl) (Nat.le_of_ble_eq_true rfl) rfl (fun v h1 d1 hq => ?_) (fun _ _ _ e => e.elim)
  rcases hq with ⟨hv, ⟨C1, F1, hh⟩, hn⟩
  · subst hv; subst hh; subst hn
    refine w_p (pc1 := 108) rfl rfl ?_
    refine w_je (pc1 := 111) (vs := [.ref 121]) (rest := []) (st1 := [.int (cmo (kd B n y.1))]) (cR (d := _) F1 hcm) rfl rfl rfl (fun _ _ => rfl) rfl (by exact cl_v my_68 rfl rfl rfl (Nat.le_of_ble_eq_true rfl) rfl (MH_obj rfl rfl) rfl (by decide) rfl rfl) (by rfl) (Nat.le_of_ble_eq_true rfl) (Nat.le_of_ble_eq_true rfl) rfl (by rfl) ?_
    refine w_p (pc1 := 112) (al1 := [(1, .int (cmo (kd B n y.1))), (0, .ref 121)]) rfl rfl ?_
    refine w_p (pc1 := 113) rfl rfl ?_
    refine w_ji (pc1 := 116) (vs := [.ref 121]) (rest := []) (rE (d := _) F1 h2) rfl rfl rfl (fun _ _ => rfl) rfl (by exact cl_v my_60 rfl rfl rfl (Nat.le_of_ble_eq_true rfl) rfl (MH_obj rfl rfl) rfl (by decide) rfl rfl) (by rfl) (Nat.le_of_ble_eq_true rfl) (Nat.le_of_ble_eq_true rfl) rfl (fun v h1 d1 hq => ?_) (fun a h1 d1 hq => ?_)
    · exact hq.elim
    · rcases hq with ⟨C9, f9, S9, ha, hh, hn⟩
      · subst ha; subst hh; subst hn
        refine Or.inl ⟨ch_new (by decide) rfl, ?_⟩
        exact ⟨C9, f9, S9, rfl, rfl, rfl⟩
set_option maxRecDepth 100000 in
theorem uc_4 (F : FK B n m C0 C s) {x : fs_T} (hE : E.1 = kd B n) (ih : Gr L xs B n m C0 t E f 3 y_62 14) (hk : kd B n s.1 ≠ 25) (hk2 : kd B n s.1 ≠ 46) (h1 : rd E f 3 s = .inr y) (hcm : cmo (kd B n y.1) ≠ -1) (h2 : spd y = .inr x) (h7 : cmo (kd B n y.1) = 7) (h3 : nsm E (nxt x) = .inl (c, i)) : Wd L xs (4 * (10 - s.2.2.1) + 16) y_58 (0, [(0, .ref 121)], [], MH C t, 0) nP (XFK B n m C0 t 0 c i) := by
  have hx := spd_s h2
  have hyq := (rd_fle _ _ _ _ h1).2.2
  have hxq : (nxt x).2.2.1 = s.2.2.1 := by show x.2.2.1 = _; rw [hx.2.2, hyq]
  have hkx : kd B n x.1 ≠ 1 ∧ kd B n x.1 ≠ 2 := by
    rw [hx.1]
    constructor
    · intro e
      rw [e] at hcm
      exact hcm rfl
    · intro e
      rw [e] at hcm
      exact hcm rfl
  refine w_p (pc1 := 1) rfl rfl ?_
  refine w_m0 (pc1 := 4) rfl rfl (h_gC rfl rfl rfl rfl) rfl ?_
  refine w_m0 (pc1 := 7) (st1 := .ref (kd B n s.1) :: _) rfl rfl (h_gRs (j := 6) rfl rfl rfl rfl rfl (tkS_tok F.1)) rfl ?_
  refine w_m0 (pc1 := 10) (st1 := .ref 25 :: _) rfl rfl rfl rfl ?_
  refine w_an_n (A := 52) (ok_kd) (by decide) (hk) rfl rfl ?_
  refine w_p (pc1 := 53) rfl rfl ?_
  refine w_m0 (pc1 := 56) rfl rfl (h_gC rfl rfl rfl rfl) rfl ?_
  refine w_m0 (pc1 := 59) (st1 := .ref (kd B n s.1) :: _) rfl rfl (h_gRs (j := 6) rfl rfl rfl rfl rfl (tkS_tok F.1)) rfl ?_
  refine w_m0 (pc1 := 62) (st1 := .ref 46 :: _) rfl rfl rfl rfl ?_
  refine w_an_n (A := 103) (ok_kd) (by decide) (hk2) rfl rfl ?_
  refine w_p (pc1 := 104) rfl rfl ?_
  refine w_ji (pc1 := 107) (vs := [.ref 121]) (rest := []) (Wd_up (by omega) (ih s y _ h1 F)) rfl rfl rfl (fun _ _ => rfl) rfl (by exact cl_v my_62 rfl rfl rfl (Nat.le_of_ble_eq_true rfl) rfl (MH_obj rfl rfl) rfl (by decide) rfl rfl) (by rfl) (Nat.le_of_ble_eq_true rfl) (Nat.le_of_ble_eq_true rfl) rfl (fun v h1 d1 hq => ?_) (fun _ _ _ e => e.elim)
  rcases hq with ⟨hv, ⟨C1, F1, hh⟩, hn⟩
  · subst hv; subst hh; subst hn
    refine w_p (pc1 := 108) rfl rfl ?_
    refine w_je (pc1 := 111) (vs := [.ref 121]) (rest := []) (st1 := [.int (cmo (kd B n y.1))]) (cR (d := _) F1 hcm) rfl rfl rfl (fun _ _ => rfl) rfl (by exact cl_v my_68 rfl rfl rfl (Nat.le_of_ble_eq_true rfl) rfl (MH_obj rfl rfl) rfl (by decide) rfl rfl) (by rfl) (Nat.le_of_ble_eq_true rfl) (Nat.le_of_ble_eq_true rfl) rfl (by rfl) ?_
    refine w_p (pc1 := 112) (al1 := [(1, .int (cmo (kd B n y.1))), (0, .ref 121)]) rfl rfl ?_
    refine w_p (pc1 := 113) rfl rfl ?_
    refine w_ji (pc1 := 116) (vs := [.ref 121]) (rest := []) (rR (d := _) F1 h2) rfl rfl rfl (fun _ _ => rfl) rfl (by exact cl_v my_60 rfl rfl rfl (Nat.le_of_ble_eq_true rfl) rfl (MH_obj rfl rfl) rfl (by decide) rfl rfl) (by rfl) (Nat.le_of_ble_eq_true rfl) (Nat.le_of_ble_eq_true rfl) rfl (fun v h1 d1 hq => ?_) (fun _ _ _ e => e.elim)
    rcases hq with ⟨hv, ⟨C2, F2, hh⟩, hn⟩
    · subst hv; subst hh; subst hn
      refine w_p (pc1 := 117) rfl rfl ?_
      refine w_m0 (pc1 := 120) rfl rfl (h_gC rfl rfl rfl rfl) rfl ?_
      refine w_ji (pc1 := 123) (vs := [.ref 101]) (rest := []) (nR (d := _) F2 hkx) rfl rfl rfl (fun _ _ => rfl) rfl (by exact cl_v my_21 rfl rfl rfl (Nat.le_of_ble_eq_true rfl) rfl (MH_obj rfl rfl) rfl (by decide) rfl rfl) (by rfl) (Nat.le_of_ble_eq_true rfl) (Nat.le_of_ble_eq_true rfl) rfl (fun v h1 d1 hq => ?_) (fun _ _ _ e => e.elim)
      rcases hq with ⟨hv, ⟨C3, F3, hh⟩, hn⟩
      · subst hv; subst hh; subst hn
        refine w_p (pc1 := 124) rfl rfl ?_
        refine w_p (pc1 := 126) (st1 := .int 7 :: _) rfl rfl ?_
        refine w_f (a := 136) (b := 129) (cb_ne_f (by exact h7)) rfl rfl ?_
        refine w_p (pc1 := 130) rfl rfl ?_
        refine w_ji (pc1 := 133) (vs := [.ref 121]) (rest := []) (Wd_up (by omega) (sE_ (d := 0) hE F3 h3)) rfl rfl rfl (fun _ _ => rfl) rfl (by exact cl_v my_69 rfl rfl rfl (Nat.le_of_ble_eq_true rfl) rfl (MH_obj rfl rfl) rfl (by decide) rfl rfl) (by rfl) (Nat.le_of_ble_eq_true rfl) (Nat.le_of_ble_eq_true rfl) rfl (fun v h1 d1 hq => ?_) (fun a h1 d1 hq => ?_)
        · exact hq.elim
        · rcases hq with ⟨C9, f9, S9, ha, hh, hn⟩
          · subst ha; subst hh; subst hn
            refine Or.inl ⟨ch_new (by decide) rfl, ?_⟩
            exact ⟨C9, f9, S9, rfl, rfl, rfl⟩
set_option maxRecDepth 100000 in
theorem uc_5 (F : FK B n m C0 C s) {x : fs_T} (hE : E.1 = kd B n) (ih : Gr L xs B n m C0 t E f 3 y_62 14) (hk : kd B n s.1 ≠ 25) (hk2 : kd B n s.1 ≠ 46) (h1 : rd E f 3 s = .inr y) (hcm : cmo (kd B n y.1) ≠ -1) (h2 : spd y = .inr x) (h7 : cmo (kd B n y.1) = 7) (h3 : nsm E (nxt x) = .inr z) : Wd L xs (4 * (10 - s.2.2.1) + 16) y_58 (0, [(0, .ref 121)], [], MH C t, 0) (PFK B n m C0 t 0 z) nX := by
  have hx := spd_s h2
  have hyq := (rd_fle _ _ _ _ h1).2.2
  have hxq : (nxt x).2.2.1 = s.2.2.1 := by show x.2.2.1 = _; rw [hx.2.2, hyq]
  have hkx : kd B n x.1 ≠ 1 ∧ kd B n x.1 ≠ 2 := by
    rw [hx.1]
    constructor
    · intro e
      rw [e] at hcm
      exact hcm rfl
    · intro e
      rw [e] at hcm
      exact hcm rfl
  refine w_p (pc1 := 1) rfl rfl ?_
  refine w_m0 (pc1 := 4) rfl rfl (h_gC rfl rfl rfl rfl) rfl ?_
  refine w_m0 (pc1 := 7) (st1 := .ref (kd B n s.1) :: _) rfl rfl (h_gRs (j := 6) rfl rfl rfl rfl rfl (tkS_tok F.1)) rfl ?_
  refine w_m0 (pc1 := 10) (st1 := .ref 25 :: _) rfl rfl rfl rfl ?_
  refine w_an_n (A := 52) (ok_kd) (by decide) (hk) rfl rfl ?_
  refine w_p (pc1 := 53) rfl rfl ?_
  refine w_m0 (pc1 := 56) rfl rfl (h_gC rfl rfl rfl rfl) rfl ?_
  refine w_m0 (pc1 := 59) (st1 := .ref (kd B n s.1) :: _) rfl rfl (h_gRs (j := 6) rfl rfl rfl rfl rfl (tkS_tok F.1)) rfl ?_
  refine w_m0 (pc1 := 62) (st1 := .ref 46 :: _) rfl rfl rfl rfl ?_
  refine w_an_n (A := 103) (ok_kd) (by decide) (hk2) rfl rfl ?_
  refine w_p (pc1 := 104) rfl rfl ?_
  refine w_ji (pc1 := 107) (vs := [.ref 121]) (rest := []) (Wd_up (by omega) (ih s y _ h1 F)) rfl rfl rfl (fun _ _ => rfl) rfl (by exact cl_v my_62 rfl rfl rfl (Nat.le_of_ble_eq_true rfl) rfl (MH_obj rfl rfl) rfl (by decide) rfl rfl) (by rfl) (Nat.le_of_ble_eq_true rfl) (Nat.le_of_ble_eq_true rfl) rfl (fun v h1 d1 hq => ?_) (fun _ _ _ e => e.elim)
  rcases hq with ⟨hv, ⟨C1, F1, hh⟩, hn⟩
  · subst hv; subst hh; subst hn
    refine w_p (pc1 := 108) rfl rfl ?_
    refine w_je (pc1 := 111) (vs := [.ref 121]) (rest := []) (st1 := [.int (cmo (kd B n y.1))]) (cR (d := _) F1 hcm) rfl rfl rfl (fun _ _ => rfl) rfl (by exact cl_v my_68 rfl rfl rfl (Nat.le_of_ble_eq_true rfl) rfl (MH_obj rfl rfl) rfl (by decide) rfl rfl) (by rfl) (Nat.le_of_ble_eq_true rfl) (Nat.le_of_ble_eq_true rfl) rfl (by rfl) ?_
    refine w_p (pc1 := 112) (al1 := [(1, .int (cmo (kd B n y.1))), (0, .ref 121)]) rfl rfl ?_
    refine w_p (pc1 := 113) rfl rfl ?_
    refine w_ji (pc1 := 116) (vs := [.ref 121]) (rest := []) (rR (d := _) F1 h2) rfl rfl rfl (fun _ _ => rfl) rfl (by exact cl_v my_60 rfl rfl rfl (Nat.le_of_ble_eq_true rfl) rfl (MH_obj rfl rfl) rfl (by decide) rfl rfl) (by rfl) (Nat.le_of_ble_eq_true rfl) (Nat.le_of_ble_eq_true rfl) rfl (fun v h1 d1 hq => ?_) (fun _ _ _ e => e.elim)
    rcases hq with ⟨hv, ⟨C2, F2, hh⟩, hn⟩
    · subst hv; subst hh; subst hn
      refine w_p (pc1 := 117) rfl rfl ?_
      refine w_m0 (pc1 := 120) rfl rfl (h_gC rfl rfl rfl rfl) rfl ?_
      refine w_ji (pc1 := 123) (vs := [.ref 101]) (rest := []) (nR (d := _) F2 hkx) rfl rfl rfl (fun _ _ => rfl) rfl (by exact cl_v my_21 rfl rfl rfl (Nat.le_of_ble_eq_true rfl) rfl (MH_obj rfl rfl) rfl (by decide) rfl rfl) (by rfl) (Nat.le_of_ble_eq_true rfl) (Nat.le_of_ble_eq_true rfl) rfl (fun v h1 d1 hq => ?_) (fun _ _ _ e => e.elim)
      rcases hq with ⟨hv, ⟨C3, F3, hh⟩, hn⟩
      · subst hv; subst hh; subst hn
        refine w_p (pc1 := 124) rfl rfl ?_
        refine w_p (pc1 := 126) (st1 := .int 7 :: _) rfl rfl ?_
        refine w_f (a := 136) (b := 129) (cb_ne_f (by exact h7)) rfl rfl ?_
        refine w_p (pc1 := 130) rfl rfl ?_
        refine w_ji (pc1 := 133) (vs := [.ref 121]) (rest := []) (Wd_up (by omega) (sR_ (d := 0) hE F3 h3)) rfl rfl rfl (fun _ _ => rfl) rfl (by exact cl_v my_69 rfl rfl rfl (Nat.le_of_ble_eq_true rfl) rfl (MH_obj rfl rfl) rfl (by decide) rfl rfl) (by rfl) (Nat.le_of_ble_eq_true rfl) (Nat.le_of_ble_eq_true rfl) rfl (fun v h1 d1 hq => ?_) (fun _ _ _ e => e.elim)
        rcases hq with ⟨hv, ⟨C4, F4, hh⟩, hn⟩
        · subst hv; subst hh; subst hn
          refine w_p (pc1 := 146) rfl rfl ?_
          refine w_r rfl rfl rfl (fun _ _ => rfl) rfl ?_
          exact PF_i F4
set_option maxRecDepth 100000 in
theorem uc_6 (F : FK B n m C0 C s) {x : fs_T} (ih : Gr L xs B n m C0 t E f 3 y_62 14) (jh : Ge L xs B n m C0 t E f 3 y_62 14) (hk : kd B n s.1 ≠ 25) (hk2 : kd B n s.1 ≠ 46) (h1 : rd E f 3 s = .inr y) (hcm : cmo (kd B n y.1) ≠ -1) (h2 : spd y = .inr x) (h7 : cmo (kd B n y.1) ≠ 7) (h3 : rd E f 3 (nxt x) = .inl (c, i)) (hc : c ≠ 0) : Wd L xs (4 * (10 - s.2.2.1) + 16) y_58 (0, [(0, .ref 121)], [], MH C t, 0) nP (XFK B n m C0 t 0 c i) := by
  have hx := spd_s h2
  have hyq := (rd_fle _ _ _ _ h1).2.2
  have hxq : (nxt x).2.2.1 = s.2.2.1 := by show x.2.2.1 = _; rw [hx.2.2, hyq]
  have hkx : kd B n x.1 ≠ 1 ∧ kd B n x.1 ≠ 2 := by
    rw [hx.1]
    constructor
    · intro e
      rw [e] at hcm
      exact hcm rfl
    · intro e
      rw [e] at hcm
      exact hcm rfl
  refine w_p (pc1 := 1) rfl rfl ?_
  refine w_m0 (pc1 := 4) rfl rfl (h_gC rfl rfl rfl rfl) rfl ?_
  refine w_m0 (pc1 := 7) (st1 := .ref (kd B n s.1) :: _) rfl rfl (h_gRs (j := 6) rfl rfl rfl rfl rfl (tkS_tok F.1)) rfl ?_
  refine w_m0 (pc1 := 10) (st1 := .ref 25 :: _) rfl rfl rfl rfl ?_
  refine w_an_n (A := 52) (ok_kd) (by decide) (hk) rfl rfl ?_
  refine w_p (pc1 := 53) rfl rfl ?_
  refine w_m0 (pc1 := 56) rfl rfl (h_gC rfl rfl rfl rfl) rfl ?_
  refine w_m0 (pc1 := 59) (st1 := .ref (kd B n s.1) :: _) rfl rfl (h_gRs (j := 6) rfl rfl rfl rfl rfl (tkS_tok F.1)) rfl ?_
  refine w_m0 (pc1 := 62) (st1 := .ref 46 :: _) rfl rfl rfl rfl ?_
  refine w_an_n (A := 103) (ok_kd) (by decide) (hk2) rfl rfl ?_
  refine w_p (pc1 := 104) rfl rfl ?_
  refine w_ji (pc1 := 107) (vs := [.ref 121]) (rest := []) (Wd_up (by omega) (ih s y _ h1 F)) rfl rfl rfl (fun _ _ => rfl) rfl (by exact cl_v my_62 rfl rfl rfl (Nat.le_of_ble_eq_true rfl) rfl (MH_obj rfl rfl) rfl (by decide) rfl rfl) (by rfl) (Nat.le_of_ble_eq_true rfl) (Nat.le_of_ble_eq_true rfl) rfl (fun v h1 d1 hq => ?_) (fun _ _ _ e => e.elim)
  rcases hq with ⟨hv, ⟨C1, F1, hh⟩, hn⟩
  · subst hv; subst hh; subst hn
    refine w_p (pc1 := 108) rfl rfl ?_
    refine w_je (pc1 := 111) (vs := [.ref 121]) (rest := []) (st1 := [.int (cmo (kd B n y.1))]) (cR (d := _) F1 hcm) rfl rfl rfl (fun _ _ => rfl) rfl (by exact cl_v my_68 rfl rfl rfl (Nat.le_of_ble_eq_true rfl) rfl (MH_obj rfl rfl) rfl (by decide) rfl rfl) (by rfl) (Nat.le_of_ble_eq_true rfl) (Nat.le_of_ble_eq_true rfl) rfl (by rfl) ?_
    refine w_p (pc1 := 112) (al1 := [(1, .int (cmo (kd B n y.1))), (0, .ref 121)]) rfl rfl ?_
    refine w_p (pc1 := 113) rfl rfl ?_
    refine w_ji (pc1 := 116) (vs := [.ref 121]) (rest := []) (rR (d := _) F1 h2) rfl rfl rfl (fun _ _ => rfl) rfl (by exact cl_v my_60 rfl rfl rfl (Nat.le_of_ble_eq_true rfl) rfl (MH_obj rfl rfl) rfl (by decide) rfl rfl) (by rfl) (Nat.le_of_ble_eq_true rfl) (Nat.le_of_ble_eq_true rfl) rfl (fun v h1 d1 hq => ?_) (fun _ _ _ e => e.elim)
    rcases hq with ⟨hv, ⟨C2, F2, hh⟩, hn⟩
    · subst hv; subst hh; subst hn
      refine w_p (pc1 := 117) rfl rfl ?_
      refine w_m0 (pc1 := 120) rfl rfl (h_gC rfl rfl rfl rfl) rfl ?_
      refine w_ji (pc1 := 123) (vs := [.ref 101]) (rest := []) (nR (d := _) F2 hkx) rfl rfl rfl (fun _ _ => rfl) rfl (by exact cl_v my_21 rfl rfl rfl (Nat.le_of_ble_eq_true rfl) rfl (MH_obj rfl rfl) rfl (by decide) rfl rfl) (by rfl) (Nat.le_of_ble_eq_true rfl) (Nat.le_of_ble_eq_true rfl) rfl (fun v h1 d1 hq => ?_) (fun _ _ _ e => e.elim)
      rcases hq with ⟨hv, ⟨C3, F3, hh⟩, hn⟩
      · subst hv; subst hh; subst hn
        refine w_p (pc1 := 124) rfl rfl ?_
        refine w_p (pc1 := 126) (st1 := .int 7 :: _) rfl rfl ?_
        refine w_t (a := 136) (b := 129) (cb_ne_t (by exact h7)) rfl rfl ?_
        refine w_p (pc1 := 137) rfl rfl ?_
        refine w_ji (pc1 := 140) (vs := [.ref 121]) (rest := []) (Wd_up (by rw [hxq]; omega) (jh (nxt x) c i _ h3 hc F3)) rfl rfl rfl (fun _ _ => rfl) rfl (by exact cl_v my_62 rfl rfl rfl (Nat.le_of_ble_eq_true rfl) rfl (MH_obj rfl rfl) rfl (by decide) rfl rfl) (by rfl) (Nat.le_of_ble_eq_true rfl) (Nat.le_of_ble_eq_true rfl) rfl (fun v h1 d1 hq => ?_) (fun a h1 d1 hq => ?_)
        · exact hq.elim
        · rcases hq with ⟨C9, f9, S9, ha, hh, hn⟩
          · subst ha; subst hh; subst hn
            refine Or.inl ⟨ch_new (by decide) rfl, ?_⟩
            exact ⟨C9, f9, S9, rfl, rfl, rfl⟩
set_option maxRecDepth 100000 in
theorem uc_7 (F : FK B n m C0 C s) {x u : fs_T} (ih : Gr L xs B n m C0 t E f 3 y_62 14) (hk : kd B n s.1 ≠ 25) (hk2 : kd B n s.1 ≠ 46) (h1 : rd E f 3 s = .inr y) (hcm : cmo (kd B n y.1) ≠ -1) (h2 : spd y = .inr x) (h7 : cmo (kd B n y.1) ≠ 7) (h3 : rd E f 3 (nxt x) = .inr u) (hz : z = emt u (cmo (kd B n y.1)) 0) : Wd L xs (4 * (10 - s.2.2.1) + 16) y_58 (0, [(0, .ref 121)], [], MH C t, 0) (PFK B n m C0 t 0 z) nX := by
  have hx := spd_s h2
  have hyq := (rd_fle _ _ _ _ h1).2.2
  have hxq : (nxt x).2.2.1 = s.2.2.1 := by show x.2.2.1 = _; rw [hx.2.2, hyq]
  have hkx : kd B n x.1 ≠ 1 ∧ kd B n x.1 ≠ 2 := by
    rw [hx.1]
    constructor
    · intro e
      rw [e] at hcm
      exact hcm rfl
    · intro e
      rw [e] at hcm
      exact hcm rfl
  have ho := fle_o (a := 0) (b := 0) h2 (rd_fle _ _ _ _ h3)
  have hy := rd_fle _ _ _ _ h1
  have hul : u.2.1.length + 1 ≤ u.1 := by
    have e3 := F.2.1
    have := ho.2.1
    have := hy.1
    have := hy.2.1
    omega
  subst hz
  refine w_p (pc1 := 1) rfl rfl ?_
  refine w_m0 (pc1 := 4) rfl rfl (h_gC rfl rfl rfl rfl) rfl ?_
  refine w_m0 (pc1 := 7) (st1 := .ref (kd B n s.1) :: _) rfl rfl (h_gRs (j := 6) rfl rfl rfl rfl rfl (tkS_tok F.1)) rfl ?_
  refine w_m0 (pc1 := 10) (st1 := .ref 25 :: _) rfl rfl rfl rfl ?_
  refine w_an_n (A := 52) (ok_kd) (by decide) (hk) rfl rfl ?_
  refine w_p (pc1 := 53) rfl rfl ?_
  refine w_m0 (pc1 := 56) rfl rfl (h_gC rfl rfl rfl rfl) rfl ?_
  refine w_m0 (pc1 := 59) (st1 := .ref (kd B n s.1) :: _) rfl rfl (h_gRs (j := 6) rfl rfl rfl rfl rfl (tkS_tok F.1)) rfl ?_
  refine w_m0 (pc1 := 62) (st1 := .ref 46 :: _) rfl rfl rfl rfl ?_
  refine w_an_n (A := 103) (ok_kd) (by decide) (hk2) rfl rfl ?_
  refine w_p (pc1 := 104) rfl rfl ?_
  refine w_ji (pc1 := 107) (vs := [.ref 121]) (rest := []) (Wd_up (by omega) (ih s y _ h1 F)) rfl rfl rfl (fun _ _ => rfl) rfl (by exact cl_v my_62 rfl rfl rfl (Nat.le_of_ble_eq_true rfl) rfl (MH_obj rfl rfl) rfl (by decide) rfl rfl) (by rfl) (Nat.le_of_ble_eq_true rfl) (Nat.le_of_ble_eq_true rfl) rfl (fun v h1 d1 hq => ?_) (fun _ _ _ e => e.elim)
  rcases hq with ⟨hv, ⟨C1, F1, hh⟩, hn⟩
  · subst hv; subst hh; subst hn
    refine w_p (pc1 := 108) rfl rfl ?_
    refine w_je (pc1 := 111) (vs := [.ref 121]) (rest := []) (st1 := [.int (cmo (kd B n y.1))]) (cR (d := _) F1 hcm) rfl rfl rfl (fun _ _ => rfl) rfl (by exact cl_v my_68 rfl rfl rfl (Nat.le_of_ble_eq_true rfl) rfl (MH_obj rfl rfl) rfl (by decide) rfl rfl) (by rfl) (Nat.le_of_ble_eq_true rfl) (Nat.le_of_ble_eq_true rfl) rfl (by rfl) ?_
    refine w_p (pc1 := 112) (al1 := [(1, .int (cmo (kd B n y.1))), (0, .ref 121)]) rfl rfl ?_
    refine w_p (pc1 := 113) rfl rfl ?_
    refine w_ji (pc1 := 116) (vs := [.ref 121]) (rest := []) (rR (d := _) F1 h2) rfl rfl rfl (fun _ _ => rfl) rfl (by exact cl_v my_60 rfl rfl rfl (Nat.le_of_ble_eq_true rfl) rfl (MH_obj rfl rfl) rfl (by decide) rfl rfl) (by rfl) (Nat.le_of_ble_eq_true rfl) (Nat.le_of_ble_eq_true rfl) rfl (fun v h1 d1 hq => ?_) (fun _ _ _ e => e.elim)
    rcases hq with ⟨hv, ⟨C2, F2, hh⟩, hn⟩
    · subst hv; subst hh; subst hn
      refine w_p (pc1 := 117) rfl rfl ?_
      refine w_m0 (pc1 := 120) rfl rfl (h_gC rfl rfl rfl rfl) rfl ?_
      refine w_ji (pc1 := 123) (vs := [.ref 101]) (rest := []) (nR (d := _) F2 hkx) rfl rfl rfl (fun _ _ => rfl) rfl (by exact cl_v my_21 rfl rfl rfl (Nat.le_of_ble_eq_true rfl) rfl (MH_obj rfl rfl) rfl (by decide) rfl rfl) (by rfl) (Nat.le_of_ble_eq_true rfl) (Nat.le_of_ble_eq_true rfl) rfl (fun v h1 d1 hq => ?_) (fun _ _ _ e => e.elim)
      rcases hq with ⟨hv, ⟨C3, F3, hh⟩, hn⟩
      · subst hv; subst hh; subst hn
        refine w_p (pc1 := 124) rfl rfl ?_
        refine w_p (pc1 := 126) (st1 := .int 7 :: _) rfl rfl ?_
        refine w_t (a := 136) (b := 129) (cb_ne_t (by exact h7)) rfl rfl ?_
        refine w_p (pc1 := 137) rfl rfl ?_
        refine w_ji (pc1 := 140) (vs := [.ref 121]) (rest := []) (Wd_up (by rw [hxq]; omega) (ih (nxt x) u _ h3 F3)) rfl rfl rfl (fun _ _ => rfl) rfl (by exact cl_v my_62 rfl rfl rfl (Nat.le_of_ble_eq_true rfl) rfl (MH_obj rfl rfl) rfl (by decide) rfl rfl) (by rfl) (Nat.le_of_ble_eq_true rfl) (Nat.le_of_ble_eq_true rfl) rfl (fun v h1 d1 hq => ?_) (fun _ _ _ e => e.elim)
        rcases hq with ⟨hv, ⟨C4, F4, hh⟩, hn⟩
        · subst hv; subst hh; subst hn
          refine w_p (pc1 := 141) rfl rfl ?_
          refine w_p (pc1 := 142) rfl rfl ?_
          refine w_p (pc1 := 143) (st1 := .int 0 :: _) rfl rfl ?_
          refine w_ji (pc1 := 146) (vs := [.ref 121, .int (cmo (kd B n y.1)), .int 0]) (rest := []) (eR (d := _) F4 hul) rfl rfl rfl (fun _ _ => rfl) rfl (by exact cl_v my_61 rfl rfl rfl (Nat.le_of_ble_eq_true rfl) rfl (MH_obj rfl rfl) rfl (by decide) rfl rfl) (by rfl) (Nat.le_of_ble_eq_true rfl) (Nat.le_of_ble_eq_true rfl) rfl (fun v h1 d1 hq => ?_) (fun _ _ _ e => e.elim)
          rcases hq with ⟨hv, ⟨C5, F5, hh⟩, hn⟩
          · subst hv; subst hh; subst hn
            refine w_r rfl rfl rfl (fun _ _ => rfl) rfl ?_
            exact PF_i F5
set_option maxRecDepth 100000 in
theorem unt_r (hE : E.1 = kd B n) (i5 : Gr L xs B n m C0 t E f 5 y_58 16) (i8 : Gr L xs B n m C0 t E f 8 y_56 18) (i3 : Gr L xs B n m C0 t E f 3 y_62 14) : Gr L xs B n m C0 t E (f + 1) 5 y_58 16 := by
  intro s z C h F
  unfold rd at h
  simp only [hE] at h
  by_cases k25 : kd B n s.1 = 25
  · rw [if_pos k25] at h
    obtain ⟨y, h1, h⟩ := bnd_s h
    obtain ⟨x, h2, h⟩ := bnd_s h
    obtain ⟨u, h3, h⟩ := bnd_s h
    cases h
    exact u5_4 F i5 k25 h1 h2 h3 rfl
  rw [if_neg k25] at h
  by_cases k46 : kd B n s.1 = 46
  · rw [if_pos k46] at h
    obtain ⟨y, h1, h⟩ := bnd_s h
    obtain ⟨u, h2, h⟩ := bnd_s h
    obtain ⟨x, h3, h⟩ := bnd_s h
    unfold xpt at h3
    rw [hE] at h3
    split at h3
    · rename_i kc
      cases h3
      cases h
      exact u6_4 F i8 k46 h1 h2 kc rfl
    · cases h3
  rw [if_neg k46] at h
  obtain ⟨y, h1, h⟩ := bnd_s h
  split at h
  · cases h
  · rename_i hcm
    obtain ⟨x, h2, h⟩ := bnd_s h
    split at h
    · rename_i h7
      exact uc_5 F hE i3 k25 k46 h1 hcm h2 h7 h
    · rename_i h7
      obtain ⟨u, h3, h⟩ := bnd_s h
      cases h
      exact uc_7 F i3 k25 k46 h1 hcm h2 h7 h3 rfl
set_option maxRecDepth 100000 in
theorem unt_e (hE : E.1 = kd B n) (i5 : Gr L xs B n m C0 t E f 5 y_58 16) (i8 : Gr L xs B n m C0 t E f 8 y_56 18) (i3 : Gr L xs B n m C0 t E f 3 y_62 14) (j5 : Ge L xs B n m C0 t E f 5 y_58 16) (j8 : Ge L xs B n m C0 t E f 8 y_56 18) (j3 : Ge L xs B n m C0 t E f 3 y_62 14) : Ge L xs B n m C0 t E (f + 1) 5 y_58 16 := by
  intro s c i C h hc F
  unfold rd at h
  simp only [hE] at h
  by_cases k25 : kd B n s.1 = 25
  · rw [if_pos k25] at h
    rcases bnd_e h with h1 | ⟨y, h1, h⟩
    · exact u5_1 F k25 h1
    rcases bnd_e h with h2 | ⟨x, h2, h⟩
    · exact u5_2 F k25 h1 h2
    rcases bnd_e h with h3 | ⟨u, h3, h⟩
    · exact u5_3 F j5 k25 h1 h2 h3 hc
    · cases h
  rw [if_neg k25] at h
  by_cases k46 : kd B n s.1 = 46
  · rw [if_pos k46] at h
    rcases bnd_e h with h1 | ⟨y, h1, h⟩
    · exact u6_1 F k46 h1
    rcases bnd_e h with h2 | ⟨u, h2, h⟩
    · exact u6_2 F j8 k46 h1 h2 hc
    rcases bnd_e h with h3 | ⟨x, h3, h⟩
    · unfold xpt at h3
      rw [hE] at h3
      split at h3
      · cases h3
      · rename_i kc
        cases h3
        exact u6_3 F i8 k46 h1 h2 kc rfl rfl
    · cases h
  rw [if_neg k46] at h
  rcases bnd_e h with h1 | ⟨y, h1, h⟩
  · exact uc_1 F j3 k25 k46 h1 hc
  split at h
  · rename_i hcm
    cases h
    exact uc_2 F i3 k25 k46 h1 hcm rfl rfl
  · rename_i hcm
    rcases bnd_e h with h2 | ⟨x, h2, h⟩
    · exact uc_3 F i3 k25 k46 h1 hcm h2
    split at h
    · rename_i h7
      exact uc_4 F hE i3 k25 k46 h1 hcm h2 h7 h
    · rename_i h7
      rcases bnd_e h with h3 | ⟨u, h3, h⟩
      · exact uc_6 F i3 j3 k25 k46 h1 hcm h2 h7 h3 hc
      · cases h
/-! all of the reader of formulas -/
set_option maxRecDepth 100000 in
theorem form (e : eK B n C0 E) : ∀ f, (Gr L xs B n m C0 t E f 0 y_64 12 ∧ Ge L xs B n m C0 t E f 0 y_64 12) ∧ (Gr L xs B n m C0 t E f 1 y_63 13 ∧ Ge L xs B n m C0 t E f 1 y_63 13) ∧ (Lr L xs B n m C0 t E f 2 y_63 13 true ∧ Le L xs B n m C0 t E f 2 y_63 13 true) ∧ (Gr L xs B n m C0 t E f 3 y_62 14 ∧ Ge L xs B n m C0 t E f 3 y_62 14) ∧ (Lr L xs B n m C0 t E f 4 y_62 14 true ∧ Le L xs B n m C0 t E f 4 y_62 14 true) ∧ (Gr L xs B n m C0 t E f 5 y_58 16 ∧ Ge L xs B n m C0 t E f 5 y_58 16) ∧ (Gr L xs B n m C0 t E f 6 y_57 17 ∧ Ge L xs B n m C0 t E f 6 y_57 17) ∧ (Lr L xs B n m C0 t E f 7 y_57 17 false ∧ Le L xs B n m C0 t E f 7 y_57 17 false) ∧ (Gr L xs B n m C0 t E f 8 y_56 18 ∧ Ge L xs B n m C0 t E f 8 y_56 18) ∧ (Lr L xs B n m C0 t E f 9 y_56 18 false ∧ Le L xs B n m C0 t E f 9 y_56 18 false)
  | 0 => by
    have gr : ∀ md y D, Gr L xs B n m C0 t E 0 md y D := fun md y D s z C h F => by cases h
    have ge : ∀ md y D, Ge L xs B n m C0 t E 0 md y D := fun md y D s c i C h hc F => by cases h; exact absurd rfl hc
    have lr : ∀ md y D w, Lr L xs B n m C0 t E 0 md y D w := fun md y D w s z C k u hu h F hk => by cases h
    have le : ∀ md y D w, Le L xs B n m C0 t E 0 md y D w := fun md y D w s c i C k u hu h hc F hk => by cases h; exact absurd rfl hc
    exact ⟨⟨gr _ _ _, ge _ _ _⟩, ⟨gr _ _ _, ge _ _ _⟩, ⟨lr _ _ _ _, le _ _ _ _⟩, ⟨gr _ _ _, ge _ _ _⟩, ⟨lr _ _ _ _, le _ _ _ _⟩, ⟨gr _ _ _, ge _ _ _⟩, ⟨gr _ _ _, ge _ _ _⟩, ⟨lr _ _ _ _, le _ _ _ _⟩, ⟨gr _ _ _, ge _ _ _⟩, ⟨lr _ _ _ _, le _ _ _ _⟩⟩
  | f + 1 => by
    obtain ⟨⟨r0, e0⟩, ⟨r1, e1⟩, ⟨r2, e2⟩, ⟨r3, e3⟩, ⟨r4, e4⟩, ⟨r5, e5⟩, ⟨r6, e6⟩, ⟨r7, e7⟩, ⟨r8, e8⟩, ⟨r9, e9⟩⟩ := form e f
    have hE := e.1
    exact ⟨⟨fac_r e r0 r3, fac_e e r0 r3 e0 e3⟩, ⟨trm_r r0 r2, trm_e r0 e0 e2⟩, ⟨trm_lr hE r0 r2, trm_le hE r0 r2 e0 e2⟩, ⟨smm_r r1 r4, smm_e r1 e1 e4⟩, ⟨smm_lr hE r1 r4, smm_le hE r1 r4 e1 e4⟩, ⟨unt_r hE r5 r8 r3, unt_e hE r5 r8 r3 e5 e8 e3⟩, ⟨bth_r r5 r7, bth_e r5 e5 e7⟩, ⟨bth_lr hE r5 r7, bth_le hE r5 r7 e5 e7⟩, ⟨tst_r r6 r9, tst_e r6 e6 e9⟩, ⟨tst_lr hE r6 r9, tst_le hE r6 r9 e6 e9⟩⟩
end UNT
