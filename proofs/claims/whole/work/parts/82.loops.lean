/-! FORMULAS, 7: terms and sums, tests of more than one unit -/
section LOP
variable {L : Nat} {xs : Nat → Int32} {t : ab_H} {n m : Nat} {B : Nat → Nat} {C0 C : co_T} {E : fe_T} {f : Nat}
def alL (k : Nat) : Option Int32 → List (Nat × Value)
  | none => [(1, .int (nI k)), (0, .ref 121)]
  | some x => [(1, .int (nI k)), (2, .int x), (0, .ref 121)]
/-! a loop of the reader, k times round -/
def Lr (L : Nat) (xs : Nat → Int32) (B : Nat → Nat) (n m : Nat) (C0 : co_T) (t : ab_H) (E : fe_T) (f md : Nat) (y : mc_T) (D : Nat) (w : Bool) : Prop := ∀ (s z : fs_T) (C : co_T) (k : Nat) (u : Option Int32), (w = false → u = none) → rd E f md s = .inr z → FK B n m C0 C s → k ≤ s.1 → Wd L xs (4 * (10 - s.2.2.1) + D) y (6, alL k u, [], MH C t, 0) (PFK B n m C0 t 0 z) nX
def Le (L : Nat) (xs : Nat → Int32) (B : Nat → Nat) (n m : Nat) (C0 : co_T) (t : ab_H) (E : fe_T) (f md : Nat) (y : mc_T) (D : Nat) (w : Bool) : Prop := ∀ (s : fs_T) (c : Int32) (i : Nat) (C : co_T) (k : Nat) (u : Option Int32), (w = false → u = none) → rd E f md s = .inl (c, i) → c ≠ 0 → FK B n m C0 C s → k ≤ s.1 → Wd L xs (4 * (10 - s.2.2.1) + D) y (6, alL k u, [], MH C t, 0) nP (XFK B n m C0 t 0 c i)
set_option maxRecDepth 100000 in
theorem trm_lr (hE : E.1 = kd B n) (ih : Gr L xs B n m C0 t E f 0 y_64 12) (il : Lr L xs B n m C0 t E f 2 y_63 13 true) : Lr L xs B n m C0 t E (f + 1) 2 y_63 13 true := by
  intro s z C k u hu h F hk0
  unfold rd at h
  simp only [hE] at h
  by_cases hop : kd B n s.1 = 58 ∨ kd B n s.1 = 59
  · rw [if_pos hop] at h
    obtain ⟨y, h1, h⟩ := bnd_s h
    obtain ⟨x, h2, h⟩ := bnd_s h
    have hx := spd_s h1
    have hxq : (nxt y).2.2.1 = s.2.2.1 := hx.2.2
    have hnk : kd B n s.1 ≠ 1 ∧ kd B n s.1 ≠ 2 := by omega
    have hky : kd B n y.1 ≠ 1 ∧ kd B n y.1 ≠ 2 := by rw [hx.1]; exact hnk
    have h6 := tkS_600 F.1
    have hlt := tkS_lt F.1 hnk.1 hnk.2
    have hf := rd_fle _ _ _ _ h2
    have ho := fle_o (a := 0) (b := 0) h1 hf
    have hl := F.2.1
    have hul : x.2.1.length + 1 ≤ x.1 := by have := ho.2.1; omega
    have hxx : x.2.2.1 = s.2.2.1 := by rw [hf.2.2]; exact hxq
    have hk1 : k + 1 ≤ x.1 := by have := ho.2.2; omega
    cases u with
    | none =>
      rcases hop with hk | hk
      · skip
        rw [if_pos hk] at h
        refine w_p (pc1 := 7) rfl rfl ?_
        refine w_p (pc1 := 10) (st1 := .int 600 :: _) rfl rfl ?_
        refine w_f (a := 87) (b := 13) (bN_ge_f (a := k) (b := 600) (by omega) (by omega) (by omega)) rfl rfl ?_
        refine w_p (pc1 := 14) rfl rfl ?_
        refine w_m0 (pc1 := 17) rfl rfl (h_gC rfl rfl rfl rfl) rfl ?_
        refine w_m0 (pc1 := 20) (st1 := .ref (kd B n s.1) :: _) rfl rfl (h_gRs (j := 6) rfl rfl rfl rfl rfl (tkS_tok F.1)) rfl ?_
        refine w_m0 (pc1 := 23) (st1 := .ref 58 :: _) rfl rfl rfl rfl ?_
        refine w_ae_y (A := 39) (ok_kd) (by decide) (hk) rfl rfl ?_
        refine w_p (pc1 := 40) rfl rfl ?_
        refine w_m0 (pc1 := 43) rfl rfl (h_gC rfl rfl rfl rfl) rfl ?_
        refine w_m0 (pc1 := 46) (st1 := .ref (kd B n s.1) :: _) rfl rfl (h_gRs (j := 6) rfl rfl rfl rfl rfl (tkS_tok F.1)) rfl ?_
        refine w_m0 (pc1 := 49) (st1 := .ref 58 :: _) rfl rfl rfl rfl ?_
        refine w_an_y (A := 57) (Bn := 52) (ok_kd) (by decide) (hk) rfl rfl rfl ?_
        refine w_p (pc1 := 54) (st1 := .int 11 :: _) rfl rfl ?_
        refine w_p (pc1 := 59) rfl rfl ?_
        refine w_p (pc1 := 60) (al1 := [(2, .int 11), (1, .int (nI (k))), (0, .ref 121)]) rfl rfl ?_
        refine w_p (pc1 := 61) rfl rfl ?_
        refine w_ji (pc1 := 64) (vs := [.ref 121]) (rest := []) (rR (d := _) F h1) rfl rfl rfl (fun _ _ => rfl) rfl (by exact cl_v my_60 rfl rfl rfl (Nat.le_of_ble_eq_true rfl) rfl (MH_obj rfl rfl) rfl (by decide) rfl rfl) (by rfl) (Nat.le_of_ble_eq_true rfl) (Nat.le_of_ble_eq_true rfl) rfl (fun v h1 d1 hq => ?_) (fun _ _ _ e => e.elim)
        rcases hq with ⟨hv, ⟨C1, F1, hh⟩, hn⟩
        · subst hv; subst hh; subst hn
          refine w_p (pc1 := 65) rfl rfl ?_
          refine w_m0 (pc1 := 68) rfl rfl (h_gC rfl rfl rfl rfl) rfl ?_
          refine w_ji (pc1 := 71) (vs := [.ref 101]) (rest := []) (nR (d := _) F1 hky) rfl rfl rfl (fun _ _ => rfl) rfl (by exact cl_v my_21 rfl rfl rfl (Nat.le_of_ble_eq_true rfl) rfl (MH_obj rfl rfl) rfl (by decide) rfl rfl) (by rfl) (Nat.le_of_ble_eq_true rfl) (Nat.le_of_ble_eq_true rfl) rfl (fun v h1 d1 hq => ?_) (fun _ _ _ e => e.elim)
          rcases hq with ⟨hv, ⟨C2, F2, hh⟩, hn⟩
          · subst hv; subst hh; subst hn
            refine w_p (pc1 := 72) rfl rfl ?_
            refine w_ji (pc1 := 75) (vs := [.ref 121]) (rest := []) (Wd_up (by rw [hxq]; omega) (ih (nxt y) x _ h2 F2)) rfl rfl rfl (fun _ _ => rfl) rfl (by exact cl_v my_64 rfl rfl rfl (Nat.le_of_ble_eq_true rfl) rfl (MH_obj rfl rfl) rfl (by decide) rfl rfl) (by rfl) (Nat.le_of_ble_eq_true rfl) (Nat.le_of_ble_eq_true rfl) rfl (fun v h1 d1 hq => ?_) (fun _ _ _ e => e.elim)
            rcases hq with ⟨hv, ⟨C3, F3, hh⟩, hn⟩
            · subst hv; subst hh; subst hn
              refine w_p (pc1 := 76) rfl rfl ?_
              refine w_p (pc1 := 77) rfl rfl ?_
              refine w_p (pc1 := 78) (st1 := .int 0 :: _) rfl rfl ?_
              refine w_ji (pc1 := 81) (vs := [.ref 121, .int 11, .int 0]) (rest := []) (eR (d := _) F3 hul) rfl rfl rfl (fun _ _ => rfl) rfl (by exact cl_v my_61 rfl rfl rfl (Nat.le_of_ble_eq_true rfl) rfl (MH_obj rfl rfl) rfl (by decide) rfl rfl) (by rfl) (Nat.le_of_ble_eq_true rfl) (Nat.le_of_ble_eq_true rfl) rfl (fun v h1 d1 hq => ?_) (fun _ _ _ e => e.elim)
              rcases hq with ⟨hv, ⟨C4, F4, hh⟩, hn⟩
              · subst hv; subst hh; subst hn
                refine w_iinc (pc1 := 84) (u := nI (k)) (z := nI (k + 1)) (al1 := [(1, .int (nI (k + 1))), (2, .int 11), (0, .ref 121)]) rfl rfl rfl nK_1 rfl rfl ?_
                refine w_p (pc1 := 6) rfl rfl ?_
                exact Wd_up (by have e : (emt x 11 0).2.2.1 = s.2.2.1 := hxx; rw [e]; exact Nat.le_refl _) (il (emt x 11 0) z _ (k + 1) (some 11) (fun e => by cases e) h F4 hk1)
      · skip
        rw [if_neg (by rw [hk]; decide)] at h
        refine w_p (pc1 := 7) rfl rfl ?_
        refine w_p (pc1 := 10) (st1 := .int 600 :: _) rfl rfl ?_
        refine w_f (a := 87) (b := 13) (bN_ge_f (a := k) (b := 600) (by omega) (by omega) (by omega)) rfl rfl ?_
        refine w_p (pc1 := 14) rfl rfl ?_
        refine w_m0 (pc1 := 17) rfl rfl (h_gC rfl rfl rfl rfl) rfl ?_
        refine w_m0 (pc1 := 20) (st1 := .ref (kd B n s.1) :: _) rfl rfl (h_gRs (j := 6) rfl rfl rfl rfl rfl (tkS_tok F.1)) rfl ?_
        refine w_m0 (pc1 := 23) (st1 := .ref 58 :: _) rfl rfl rfl rfl ?_
        refine w_ae_n (A := 39) (Bn := 26) (ok_kd) (by decide) (by rw [hk]; decide) rfl rfl rfl ?_
        refine w_p (pc1 := 27) rfl rfl ?_
        refine w_m0 (pc1 := 30) rfl rfl (h_gC rfl rfl rfl rfl) rfl ?_
        refine w_m0 (pc1 := 33) (st1 := .ref (kd B n s.1) :: _) rfl rfl (h_gRs (j := 6) rfl rfl rfl rfl rfl (tkS_tok F.1)) rfl ?_
        refine w_m0 (pc1 := 36) (st1 := .ref 59 :: _) rfl rfl rfl rfl ?_
        refine w_an_y (A := 87) (Bn := 39) (ok_kd) (by decide) (hk) rfl rfl rfl ?_
        refine w_p (pc1 := 40) rfl rfl ?_
        refine w_m0 (pc1 := 43) rfl rfl (h_gC rfl rfl rfl rfl) rfl ?_
        refine w_m0 (pc1 := 46) (st1 := .ref (kd B n s.1) :: _) rfl rfl (h_gRs (j := 6) rfl rfl rfl rfl rfl (tkS_tok F.1)) rfl ?_
        refine w_m0 (pc1 := 49) (st1 := .ref 58 :: _) rfl rfl rfl rfl ?_
        refine w_an_n (A := 57) (ok_kd) (by decide) (by rw [hk]; decide) rfl rfl ?_
        refine w_p (pc1 := 59) (st1 := .int 12 :: _) rfl rfl ?_
        refine w_p (pc1 := 60) (al1 := [(2, .int 12), (1, .int (nI (k))), (0, .ref 121)]) rfl rfl ?_
        refine w_p (pc1 := 61) rfl rfl ?_
        refine w_ji (pc1 := 64) (vs := [.ref 121]) (rest := []) (rR (d := _) F h1) rfl rfl rfl (fun _ _ => rfl) rfl (by exact cl_v my_60 rfl rfl rfl (Nat.le_of_ble_eq_true rfl) rfl (MH_obj rfl rfl) rfl (by decide) rfl rfl) (by rfl) (Nat.le_of_ble_eq_true rfl) (Nat.le_of_ble_eq_true rfl) rfl (fun v h1 d1 hq => ?_) (fun _ _ _ e => e.elim)
        rcases hq with ⟨hv, ⟨C1, F1, hh⟩, hn⟩
        · subst hv; subst hh; subst hn
          refine w_p (pc1 := 65) rfl rfl ?_
          refine w_m0 (pc1 := 68) rfl rfl (h_gC rfl rfl rfl rfl) rfl ?_
          refine w_ji (pc1 := 71) (vs := [.ref 101]) (rest := []) (nR (d := _) F1 hky) rfl rfl rfl (fun _ _ => rfl) rfl (by exact cl_v my_21 rfl rfl rfl (Nat.le_of_ble_eq_true rfl) rfl (MH_obj rfl rfl) rfl (by decide) rfl rfl) (by rfl) (Nat.le_of_ble_eq_true rfl) (Nat.le_of_ble_eq_true rfl) rfl (fun v h1 d1 hq => ?_) (fun _ _ _ e => e.elim)
          rcases hq with ⟨hv, ⟨C2, F2, hh⟩, hn⟩
          · subst hv; subst hh; subst hn
            refine w_p (pc1 := 72) rfl rfl ?_
            refine w_ji (pc1 := 75) (vs := [.ref 121]) (rest := []) (Wd_up (by rw [hxq]; omega) (ih (nxt y) x _ h2 F2)) rfl rfl rfl (fun _ _ => rfl) rfl (by exact cl_v my_64 rfl rfl rfl (Nat.le_of_ble_eq_true rfl) rfl (MH_obj rfl rfl) rfl (by decide) rfl rfl) (by rfl) (Nat.le_of_ble_eq_true rfl) (Nat.le_of_ble_eq_true rfl) rfl (fun v h1 d1 hq => ?_) (fun _ _ _ e => e.elim)
            rcases hq with ⟨hv, ⟨C3, F3, hh⟩, hn⟩
            · subst hv; subst hh; subst hn
              refine w_p (pc1 := 76) rfl rfl ?_
              refine w_p (pc1 := 77) rfl rfl ?_
              refine w_p (pc1 := 78) (st1 := .int 0 :: _) rfl rfl ?_
              refine w_ji (pc1 := 81) (vs := [.ref 121, .int 12, .int 0]) (rest := []) (eR (d := _) F3 hul) rfl rfl rfl (fun _ _ => rfl) rfl (by exact cl_v my_61 rfl rfl rfl (Nat.le_of_ble_eq_true rfl) rfl (MH_obj rfl rfl) rfl (by decide) rfl rfl) (by rfl) (Nat.le_of_ble_eq_true rfl) (Nat.le_of_ble_eq_true rfl) rfl (fun v h1 d1 hq => ?_) (fun _ _ _ e => e.elim)
              rcases hq with ⟨hv, ⟨C4, F4, hh⟩, hn⟩
              · subst hv; subst hh; subst hn
                refine w_iinc (pc1 := 84) (u := nI (k)) (z := nI (k + 1)) (al1 := [(1, .int (nI (k + 1))), (2, .int 12), (0, .ref 121)]) rfl rfl rfl nK_1 rfl rfl ?_
                refine w_p (pc1 := 6) rfl rfl ?_
                exact Wd_up (by have e : (emt x 12 0).2.2.1 = s.2.2.1 := hxx; rw [e]; exact Nat.le_refl _) (il (emt x 12 0) z _ (k + 1) (some 12) (fun e => by cases e) h F4 hk1)
    | some x2 =>
      rcases hop with hk | hk
      · skip
        rw [if_pos hk] at h
        refine w_p (pc1 := 7) rfl rfl ?_
        refine w_p (pc1 := 10) (st1 := .int 600 :: _) rfl rfl ?_
        refine w_f (a := 87) (b := 13) (bN_ge_f (a := k) (b := 600) (by omega) (by omega) (by omega)) rfl rfl ?_
        refine w_p (pc1 := 14) rfl rfl ?_
        refine w_m0 (pc1 := 17) rfl rfl (h_gC rfl rfl rfl rfl) rfl ?_
        refine w_m0 (pc1 := 20) (st1 := .ref (kd B n s.1) :: _) rfl rfl (h_gRs (j := 6) rfl rfl rfl rfl rfl (tkS_tok F.1)) rfl ?_
        refine w_m0 (pc1 := 23) (st1 := .ref 58 :: _) rfl rfl rfl rfl ?_
        refine w_ae_y (A := 39) (ok_kd) (by decide) (hk) rfl rfl ?_
        refine w_p (pc1 := 40) rfl rfl ?_
        refine w_m0 (pc1 := 43) rfl rfl (h_gC rfl rfl rfl rfl) rfl ?_
        refine w_m0 (pc1 := 46) (st1 := .ref (kd B n s.1) :: _) rfl rfl (h_gRs (j := 6) rfl rfl rfl rfl rfl (tkS_tok F.1)) rfl ?_
        refine w_m0 (pc1 := 49) (st1 := .ref 58 :: _) rfl rfl rfl rfl ?_
        refine w_an_y (A := 57) (Bn := 52) (ok_kd) (by decide) (hk) rfl rfl rfl ?_
        refine w_p (pc1 := 54) (st1 := .int 11 :: _) rfl rfl ?_
        refine w_p (pc1 := 59) rfl rfl ?_
        refine w_p (pc1 := 60) (al1 := [(2, .int 11), (1, .int (nI (k))), (0, .ref 121)]) rfl rfl ?_
        refine w_p (pc1 := 61) rfl rfl ?_
        refine w_ji (pc1 := 64) (vs := [.ref 121]) (rest := []) (rR (d := _) F h1) rfl rfl rfl (fun _ _ => rfl) rfl (by exact cl_v my_60 rfl rfl rfl (Nat.le_of_ble_eq_true rfl) rfl (MH_obj rfl rfl) rfl (by decide) rfl rfl) (by rfl) (Nat.le_of_ble_eq_true rfl) (Nat.le_of_ble_eq_true rfl) rfl (fun v h1 d1 hq => ?_) (fun _ _ _ e => e.elim)
        rcases hq with ⟨hv, ⟨C1, F1, hh⟩, hn⟩
        · subst hv; subst hh; subst hn
          refine w_p (pc1 := 65) rfl rfl ?_
          refine w_m0 (pc1 := 68) rfl rfl (h_gC rfl rfl rfl rfl) rfl ?_
          refine w_ji (pc1 := 71) (vs := [.ref 101]) (rest := []) (nR (d := _) F1 hky) rfl rfl rfl (fun _ _ => rfl) rfl (by exact cl_v my_21 rfl rfl rfl (Nat.le_of_ble_eq_true rfl) rfl (MH_obj rfl rfl) rfl (by decide) rfl rfl) (by rfl) (Nat.le_of_ble_eq_true rfl) (Nat.le_of_ble_eq_true rfl) rfl (fun v h1 d1 hq => ?_) (fun _ _ _ e => e.elim)
          rcases hq with ⟨hv, ⟨C2, F2, hh⟩, hn⟩
          · subst hv; subst hh; subst hn
            refine w_p (pc1 := 72) rfl rfl ?_
            refine w_ji (pc1 := 75) (vs := [.ref 121]) (rest := []) (Wd_up (by rw [hxq]; omega) (ih (nxt y) x _ h2 F2)) rfl rfl rfl (fun _ _ => rfl) rfl (by exact cl_v my_64 rfl rfl rfl (Nat.le_of_ble_eq_true rfl) rfl (MH_obj rfl rfl) rfl (by decide) rfl rfl) (by rfl) (Nat.le_of_ble_eq_true rfl) (Nat.le_of_ble_eq_true rfl) rfl (fun v h1 d1 hq => ?_) (fun _ _ _ e => e.elim)
            rcases hq with ⟨hv, ⟨C3, F3, hh⟩, hn⟩
            · subst hv; subst hh; subst hn
              refine w_p (pc1 := 76) rfl rfl ?_
              refine w_p (pc1 := 77) rfl rfl ?_
              refine w_p (pc1 := 78) (st1 := .int 0 :: _) rfl rfl ?_
              refine w_ji (pc1 := 81) (vs := [.ref 121, .int 11, .int 0]) (rest := []) (eR (d := _) F3 hul) rfl rfl rfl (fun _ _ => rfl) rfl (by exact cl_v my_61 rfl rfl rfl (Nat.le_of_ble_eq_true rfl) rfl (MH_obj rfl rfl) rfl (by decide) rfl rfl) (by rfl) (Nat.le_of_ble_eq_true rfl) (Nat.le_of_ble_eq_true rfl) rfl (fun v h1 d1 hq => ?_) (fun _ _ _ e => e.elim)
              rcases hq with ⟨hv, ⟨C4, F4, hh⟩, hn⟩
              · subst hv; subst hh; subst hn
                refine w_iinc (pc1 := 84) (u := nI (k)) (z := nI (k + 1)) (al1 := [(1, .int (nI (k + 1))), (2, .int 11), (0, .ref 121)]) rfl rfl rfl nK_1 rfl rfl ?_
                refine w_p (pc1 := 6) rfl rfl ?_
                exact Wd_up (by have e : (emt x 11 0).2.2.1 = s.2.2.1 := hxx; rw [e]; exact Nat.le_refl _) (il (emt x 11 0) z _ (k + 1) (some 11) (fun e => by cases e) h F4 hk1)
      · skip
        rw [if_neg (by rw [hk]; decide)] at h
        refine w_p (pc1 := 7) rfl rfl ?_
        refine w_p (pc1 := 10) (st1 := .int 600 :: _) rfl rfl ?_
        refine w_f (a := 87) (b := 13) (bN_ge_f (a := k) (b := 600) (by omega) (by omega) (by omega)) rfl rfl ?_
        refine w_p (pc1 := 14) rfl rfl ?_
        refine w_m0 (pc1 := 17) rfl rfl (h_gC rfl rfl rfl rfl) rfl ?_
        refine w_m0 (pc1 := 20) (st1 := .ref (kd B n s.1) :: _) rfl rfl (h_gRs (j := 6) rfl rfl rfl rfl rfl (tkS_tok F.1)) rfl ?_
        refine w_m0 (pc1 := 23) (st1 := .ref 58 :: _) rfl rfl rfl rfl ?_
        refine w_ae_n (A := 39) (Bn := 26) (ok_kd) (by decide) (by rw [hk]; decide) rfl rfl rfl ?_
        refine w_p (pc1 := 27) rfl rfl ?_
        refine w_m0 (pc1 := 30) rfl rfl (h_gC rfl rfl rfl rfl) rfl ?_
        refine w_m0 (pc1 := 33) (st1 := .ref (kd B n s.1) :: _) rfl rfl (h_gRs (j := 6) rfl rfl rfl rfl rfl (tkS_tok F.1)) rfl ?_
        refine w_m0 (pc1 := 36) (st1 := .ref 59 :: _) rfl rfl rfl rfl ?_
        refine w_an_y (A := 87) (Bn := 39) (ok_kd) (by decide) (hk) rfl rfl rfl ?_
        refine w_p (pc1 := 40) rfl rfl ?_
        refine w_m0 (pc1 := 43) rfl rfl (h_gC rfl rfl rfl rfl) rfl ?_
        refine w_m0 (pc1 := 46) (st1 := .ref (kd B n s.1) :: _) rfl rfl (h_gRs (j := 6) rfl rfl rfl rfl rfl (tkS_tok F.1)) rfl ?_
        refine w_m0 (pc1 := 49) (st1 := .ref 58 :: _) rfl rfl rfl rfl ?_
        refine w_an_n (A := 57) (ok_kd) (by decide) (by rw [hk]; decide) rfl rfl ?_
        refine w_p (pc1 := 59) (st1 := .int 12 :: _) rfl rfl ?_
        refine w_p (pc1 := 60) (al1 := [(2, .int 12), (1, .int (nI (k))), (0, .ref 121)]) rfl rfl ?_
        refine w_p (pc1 := 61) rfl rfl ?_
        refine w_ji (pc1 := 64) (vs := [.ref 121]) (rest := []) (rR (d := _) F h1) rfl rfl rfl (fun _ _ => rfl) rfl (by exact cl_v my_60 rfl rfl rfl (Nat.le_of_ble_eq_true rfl) rfl (MH_obj rfl rfl) rfl (by decide) rfl rfl) (by rfl) (Nat.le_of_ble_eq_true rfl) (Nat.le_of_ble_eq_true rfl) rfl (fun v h1 d1 hq => ?_) (fun _ _ _ e => e.elim)
        rcases hq with ⟨hv, ⟨C1, F1, hh⟩, hn⟩
        · subst hv; subst hh; subst hn
          refine w_p (pc1 := 65) rfl rfl ?_
          refine w_m0 (pc1 := 68) rfl rfl (h_gC rfl rfl rfl rfl) rfl ?_
          refine w_ji (pc1 := 71) (vs := [.ref 101]) (rest := []) (nR (d := _) F1 hky) rfl rfl rfl (fun _ _ => rfl) rfl (by exact cl_v my_21 rfl rfl rfl (Nat.le_of_ble_eq_true rfl) rfl (MH_obj rfl rfl) rfl (by decide) rfl rfl) (by rfl) (Nat.le_of_ble_eq_true rfl) (Nat.le_of_ble_eq_true rfl) rfl (fun v h1 d1 hq => ?_) (fun _ _ _ e => e.elim)
          rcases hq with ⟨hv, ⟨C2, F2, hh⟩, hn⟩
          · subst hv; subst hh; subst hn
            refine w_p (pc1 := 72) rfl rfl ?_
            refine w_ji (pc1 := 75) (vs := [.ref 121]) (rest := []) (Wd_up (by rw [hxq]; omega) (ih (nxt y) x _ h2 F2)) rfl rfl rfl (fun _ _ => rfl) rfl (by exact cl_v my_64 rfl rfl rfl (Nat.le_of_ble_eq_true rfl) rfl (MH_obj rfl rfl) rfl (by decide) rfl rfl) (by rfl) (Nat.le_of_ble_eq_true rfl) (Nat.le_of_ble_eq_true rfl) rfl (fun v h1 d1 hq => ?_) (fun _ _ _ e => e.elim)
            rcases hq with ⟨hv, ⟨C3, F3, hh⟩, hn⟩
            · subst hv; subst hh; subst hn
              refine w_p (pc1 := 76) rfl rfl ?_
              refine w_p (pc1 := 77) rfl rfl ?_
              refine w_p (pc1 := 78) (st1 := .int 0 :: _) rfl rfl ?_
              refine w_ji (pc1 := 81) (vs := [.ref 121, .int 12, .int 0]) (rest := []) (eR (d := _) F3 hul) rfl rfl rfl (fun _ _ => rfl) rfl (by exact cl_v my_61 rfl rfl rfl (Nat.le_of_ble_eq_true rfl) rfl (MH_obj rfl rfl) rfl (by decide) rfl rfl) (by rfl) (Nat.le_of_ble_eq_true rfl) (Nat.le_of_ble_eq_true rfl) rfl (fun v h1 d1 hq => ?_) (fun _ _ _ e => e.elim)
              rcases hq with ⟨hv, ⟨C4, F4, hh⟩, hn⟩
              · subst hv; subst hh; subst hn
                refine w_iinc (pc1 := 84) (u := nI (k)) (z := nI (k + 1)) (al1 := [(1, .int (nI (k + 1))), (2, .int 12), (0, .ref 121)]) rfl rfl rfl nK_1 rfl rfl ?_
                refine w_p (pc1 := 6) rfl rfl ?_
                exact Wd_up (by have e : (emt x 12 0).2.2.1 = s.2.2.1 := hxx; rw [e]; exact Nat.le_refl _) (il (emt x 12 0) z _ (k + 1) (some 12) (fun e => by cases e) h F4 hk1)
  · rw [if_neg hop] at h
    cases h
    have h6 := tkS_600 F.1
    have hm := F.1.2.2.2.1
    cases u with
    | none =>
      by_cases h600 : k < 600
      · skip
        refine w_p (pc1 := 7) rfl rfl ?_
        refine w_p (pc1 := 10) (st1 := .int 600 :: _) rfl rfl ?_
        refine w_f (a := 87) (b := 13) (bN_ge_f (a := k) (b := 600) (by omega) (by omega) (by omega)) rfl rfl ?_
        refine w_p (pc1 := 14) rfl rfl ?_
        refine w_m0 (pc1 := 17) rfl rfl (h_gC rfl rfl rfl rfl) rfl ?_
        refine w_m0 (pc1 := 20) (st1 := .ref (kd B n s.1) :: _) rfl rfl (h_gRs (j := 6) rfl rfl rfl rfl rfl (tkS_tok F.1)) rfl ?_
        refine w_m0 (pc1 := 23) (st1 := .ref 58 :: _) rfl rfl rfl rfl ?_
        refine w_ae_n (A := 39) (Bn := 26) (ok_kd) (by decide) (by omega) rfl rfl rfl ?_
        refine w_p (pc1 := 27) rfl rfl ?_
        refine w_m0 (pc1 := 30) rfl rfl (h_gC rfl rfl rfl rfl) rfl ?_
        refine w_m0 (pc1 := 33) (st1 := .ref (kd B n s.1) :: _) rfl rfl (h_gRs (j := 6) rfl rfl rfl rfl rfl (tkS_tok F.1)) rfl ?_
        refine w_m0 (pc1 := 36) (st1 := .ref 59 :: _) rfl rfl rfl rfl ?_
        refine w_an_n (A := 87) (ok_kd) (by decide) (by omega) rfl rfl ?_
        refine w_r rfl rfl rfl (fun _ _ => rfl) rfl ?_
        exact PF_i F
      · skip
        refine w_p (pc1 := 7) rfl rfl ?_
        refine w_p (pc1 := 10) (st1 := .int 600 :: _) rfl rfl ?_
        refine w_t (a := 87) (b := 13) (bN_ge_t (a := k) (b := 600) (by omega) (by omega) (by omega)) rfl rfl ?_
        refine w_r rfl rfl rfl (fun _ _ => rfl) rfl ?_
        exact PF_i F
    | some x2 =>
      by_cases h600 : k < 600
      · skip
        refine w_p (pc1 := 7) rfl rfl ?_
        refine w_p (pc1 := 10) (st1 := .int 600 :: _) rfl rfl ?_
        refine w_f (a := 87) (b := 13) (bN_ge_f (a := k) (b := 600) (by omega) (by omega) (by omega)) rfl rfl ?_
        refine w_p (pc1 := 14) rfl rfl ?_
        refine w_m0 (pc1 := 17) rfl rfl (h_gC rfl rfl rfl rfl) rfl ?_
        refine w_m0 (pc1 := 20) (st1 := .ref (kd B n s.1) :: _) rfl rfl (h_gRs (j := 6) rfl rfl rfl rfl rfl (tkS_tok F.1)) rfl ?_
        refine w_m0 (pc1 := 23) (st1 := .ref 58 :: _) rfl rfl rfl rfl ?_
        refine w_ae_n (A := 39) (Bn := 26) (ok_kd) (by decide) (by omega) rfl rfl rfl ?_
        refine w_p (pc1 := 27) rfl rfl ?_
        refine w_m0 (pc1 := 30) rfl rfl (h_gC rfl rfl rfl rfl) rfl ?_
        refine w_m0 (pc1 := 33) (st1 := .ref (kd B n s.1) :: _) rfl rfl (h_gRs (j := 6) rfl rfl rfl rfl rfl (tkS_tok F.1)) rfl ?_
        refine w_m0 (pc1 := 36) (st1 := .ref 59 :: _) rfl rfl rfl rfl ?_
        refine w_an_n (A := 87) (ok_kd) (by decide) (by omega) rfl rfl ?_
        refine w_r rfl rfl rfl (fun _ _ => rfl) rfl ?_
        exact PF_i F
      · skip
        refine w_p (pc1 := 7) rfl rfl ?_
        refine w_p (pc1 := 10) (st1 := .int 600 :: _) rfl rfl ?_
        refine w_t (a := 87) (b := 13) (bN_ge_t (a := k) (b := 600) (by omega) (by omega) (by omega)) rfl rfl ?_
        refine w_r rfl rfl rfl (fun _ _ => rfl) rfl ?_
        exact PF_i F
set_option maxRecDepth 100000 in
theorem trm_le (hE : E.1 = kd B n) (ih : Gr L xs B n m C0 t E f 0 y_64 12) (il : Lr L xs B n m C0 t E f 2 y_63 13 true) (jh : Ge L xs B n m C0 t E f 0 y_64 12) (jl : Le L xs B n m C0 t E f 2 y_63 13 true) : Le L xs B n m C0 t E (f + 1) 2 y_63 13 true := by
  intro s c i C k u hu h hc F hk0
  unfold rd at h
  simp only [hE] at h
  by_cases hop : kd B n s.1 = 58 ∨ kd B n s.1 = 59
  · rw [if_pos hop] at h
    have hnk : kd B n s.1 ≠ 1 ∧ kd B n s.1 ≠ 2 := by omega
    have h6 := tkS_600 F.1
    have hlt := tkS_lt F.1 hnk.1 hnk.2
    rcases bnd_e h with h1 | ⟨y, h1, h⟩
    · skip
      cases u with
      | none =>
        rcases hop with hk | hk
        · skip
          refine w_p (pc1 := 7) rfl rfl ?_
          refine w_p (pc1 := 10) (st1 := .int 600 :: _) rfl rfl ?_
          refine w_f (a := 87) (b := 13) (bN_ge_f (a := k) (b := 600) (by omega) (by omega) (by omega)) rfl rfl ?_
          refine w_p (pc1 := 14) rfl rfl ?_
          refine w_m0 (pc1 := 17) rfl rfl (h_gC rfl rfl rfl rfl) rfl ?_
          refine w_m0 (pc1 := 20) (st1 := .ref (kd B n s.1) :: _) rfl rfl (h_gRs (j := 6) rfl rfl rfl rfl rfl (tkS_tok F.1)) rfl ?_
          refine w_m0 (pc1 := 23) (st1 := .ref 58 :: _) rfl rfl rfl rfl ?_
          refine w_ae_y (A := 39) (ok_kd) (by decide) (hk) rfl rfl ?_
          refine w_p (pc1 := 40) rfl rfl ?_
          refine w_m0 (pc1 := 43) rfl rfl (h_gC rfl rfl rfl rfl) rfl ?_
          refine w_m0 (pc1 := 46) (st1 := .ref (kd B n s.1) :: _) rfl rfl (h_gRs (j := 6) rfl rfl rfl rfl rfl (tkS_tok F.1)) rfl ?_
          refine w_m0 (pc1 := 49) (st1 := .ref 58 :: _) rfl rfl rfl rfl ?_
          refine w_an_y (A := 57) (Bn := 52) (ok_kd) (by decide) (hk) rfl rfl rfl ?_
          refine w_p (pc1 := 54) (st1 := .int 11 :: _) rfl rfl ?_
          refine w_p (pc1 := 59) rfl rfl ?_
          refine w_p (pc1 := 60) (al1 := [(2, .int 11), (1, .int (nI (k))), (0, .ref 121)]) rfl rfl ?_
          refine w_p (pc1 := 61) rfl rfl ?_
          refine w_ji (pc1 := 64) (vs := [.ref 121]) (rest := []) (rE (d := _) F h1) rfl rfl rfl (fun _ _ => rfl) rfl (by exact cl_v my_60 rfl rfl rfl (Nat.le_of_ble_eq_true rfl) rfl (MH_obj rfl rfl) rfl (by decide) rfl rfl) (by rfl) (Nat.le_of_ble_eq_true rfl) (Nat.le_of_ble_eq_true rfl) rfl (fun v h1 d1 hq => ?_) (fun a h1 d1 hq => ?_)
          · exact hq.elim
          · rcases hq with ⟨C9, f9, S9, ha, hh, hn⟩
            · subst ha; subst hh; subst hn
              refine Or.inl ⟨ch_new (by decide) rfl, ?_⟩
              exact ⟨C9, f9, S9, rfl, rfl, rfl⟩
        · skip
          refine w_p (pc1 := 7) rfl rfl ?_
          refine w_p (pc1 := 10) (st1 := .int 600 :: _) rfl rfl ?_
          refine w_f (a := 87) (b := 13) (bN_ge_f (a := k) (b := 600) (by omega) (by omega) (by omega)) rfl rfl ?_
          refine w_p (pc1 := 14) rfl rfl ?_
          refine w_m0 (pc1 := 17) rfl rfl (h_gC rfl rfl rfl rfl) rfl ?_
          refine w_m0 (pc1 := 20) (st1 := .ref (kd B n s.1) :: _) rfl rfl (h_gRs (j := 6) rfl rfl rfl rfl rfl (tkS_tok F.1)) rfl ?_
          refine w_m0 (pc1 := 23) (st1 := .ref 58 :: _) rfl rfl rfl rfl ?_
          refine w_ae_n (A := 39) (Bn := 26) (ok_kd) (by decide) (by rw [hk]; decide) rfl rfl rfl ?_
          refine w_p (pc1 := 27) rfl rfl ?_
          refine w_m0 (pc1 := 30) rfl rfl (h_gC rfl rfl rfl rfl) rfl ?_
          refine w_m0 (pc1 := 33) (st1 := .ref (kd B n s.1) :: _) rfl rfl (h_gRs (j := 6) rfl rfl rfl rfl rfl (tkS_tok F.1)) rfl ?_
          refine w_m0 (pc1 := 36) (st1 := .ref 59 :: _) rfl rfl rfl rfl ?_
          refine w_an_y (A := 87) (Bn := 39) (ok_kd) (by decide) (hk) rfl rfl rfl ?_
          refine w_p (pc1 := 40) rfl rfl ?_
          refine w_m0 (pc1 := 43) rfl rfl (h_gC rfl rfl rfl rfl) rfl ?_
          refine w_m0 (pc1 := 46) (st1 := .ref (kd B n s.1) :: _) rfl rfl (h_gRs (j := 6) rfl rfl rfl rfl rfl (tkS_tok F.1)) rfl ?_
          refine w_m0 (pc1 := 49) (st1 := .ref 58 :: _) rfl rfl rfl rfl ?_
          refine w_an_n (A := 57) (ok_kd) (by decide) (by rw [hk]; decide) rfl rfl ?_
          refine w_p (pc1 := 59) (st1 := .int 12 :: _) rfl rfl ?_
          refine w_p (pc1 := 60) (al1 := [(2, .int 12), (1, .int (nI (k))), (0, .ref 121)]) rfl rfl ?_
          refine w_p (pc1 := 61) rfl rfl ?_
          refine w_ji (pc1 := 64) (vs := [.ref 121]) (rest := []) (rE (d := _) F h1) rfl rfl rfl (fun _ _ => rfl) rfl (by exact cl_v my_60 rfl rfl rfl (Nat.le_of_ble_eq_true rfl) rfl (MH_obj rfl rfl) rfl (by decide) rfl rfl) (by rfl) (Nat.le_of_ble_eq_true rfl) (Nat.le_of_ble_eq_true rfl) rfl (fun v h1 d1 hq => ?_) (fun a h1 d1 hq => ?_)
          · exact hq.elim
          · rcases hq with ⟨C9, f9, S9, ha, hh, hn⟩
            · subst ha; subst hh; subst hn
              refine Or.inl ⟨ch_new (by decide) rfl, ?_⟩
              exact ⟨C9, f9, S9, rfl, rfl, rfl⟩
      | some x2 =>
        rcases hop with hk | hk
        · skip
          refine w_p (pc1 := 7) rfl rfl ?_
          refine w_p (pc1 := 10) (st1 := .int 600 :: _) rfl rfl ?_
          refine w_f (a := 87) (b := 13) (bN_ge_f (a := k) (b := 600) (by omega) (by omega) (by omega)) rfl rfl ?_
          refine w_p (pc1 := 14) rfl rfl ?_
          refine w_m0 (pc1 := 17) rfl rfl (h_gC rfl rfl rfl rfl) rfl ?_
          refine w_m0 (pc1 := 20) (st1 := .ref (kd B n s.1) :: _) rfl rfl (h_gRs (j := 6) rfl rfl rfl rfl rfl (tkS_tok F.1)) rfl ?_
          refine w_m0 (pc1 := 23) (st1 := .ref 58 :: _) rfl rfl rfl rfl ?_
          refine w_ae_y (A := 39) (ok_kd) (by decide) (hk) rfl rfl ?_
          refine w_p (pc1 := 40) rfl rfl ?_
          refine w_m0 (pc1 := 43) rfl rfl (h_gC rfl rfl rfl rfl) rfl ?_
          refine w_m0 (pc1 := 46) (st1 := .ref (kd B n s.1) :: _) rfl rfl (h_gRs (j := 6) rfl rfl rfl rfl rfl (tkS_tok F.1)) rfl ?_
          refine w_m0 (pc1 := 49) (st1 := .ref 58 :: _) rfl rfl rfl rfl ?_
          refine w_an_y (A := 57) (Bn := 52) (ok_kd) (by decide) (hk) rfl rfl rfl ?_
          refine w_p (pc1 := 54) (st1 := .int 11 :: _) rfl rfl ?_
          refine w_p (pc1 := 59) rfl rfl ?_
          refine w_p (pc1 := 60) (al1 := [(2, .int 11), (1, .int (nI (k))), (0, .ref 121)]) rfl rfl ?_
          refine w_p (pc1 := 61) rfl rfl ?_
          refine w_ji (pc1 := 64) (vs := [.ref 121]) (rest := []) (rE (d := _) F h1) rfl rfl rfl (fun _ _ => rfl) rfl (by exact cl_v my_60 rfl rfl rfl (Nat.le_of_ble_eq_true rfl) rfl (MH_obj rfl rfl) rfl (by decide) rfl rfl) (by rfl) (Nat.le_of_ble_eq_true rfl) (Nat.le_of_ble_eq_true rfl) rfl (fun v h1 d1 hq => ?_) (fun a h1 d1 hq => ?_)
          · exact hq.elim
          · rcases hq with ⟨C9, f9, S9, ha, hh, hn⟩
            · subst ha; subst hh; subst hn
              refine Or.inl ⟨ch_new (by decide) rfl, ?_⟩
              exact ⟨C9, f9, S9, rfl, rfl, rfl⟩
        · skip
          refine w_p (pc1 := 7) rfl rfl ?_
          refine w_p (pc1 := 10) (st1 := .int 600 :: _) rfl rfl ?_
          refine w_f (a := 87) (b := 13) (bN_ge_f (a := k) (b := 600) (by omega) (by omega) (by omega)) rfl rfl ?_
          refine w_p (pc1 := 14) rfl rfl ?_
          refine w_m0 (pc1 := 17) rfl rfl (h_gC rfl rfl rfl rfl) rfl ?_
          refine w_m0 (pc1 := 20) (st1 := .ref (kd B n s.1) :: _) rfl rfl (h_gRs (j := 6) rfl rfl rfl rfl rfl (tkS_tok F.1)) rfl ?_
          refine w_m0 (pc1 := 23) (st1 := .ref 58 :: _) rfl rfl rfl rfl ?_
          refine w_ae_n (A := 39) (Bn := 26) (ok_kd) (by decide) (by rw [hk]; decide) rfl rfl rfl ?_
          refine w_p (pc1 := 27) rfl rfl ?_
          refine w_m0 (pc1 := 30) rfl rfl (h_gC rfl rfl rfl rfl) rfl ?_
          refine w_m0 (pc1 := 33) (st1 := .ref (kd B n s.1) :: _) rfl rfl (h_gRs (j := 6) rfl rfl rfl rfl rfl (tkS_tok F.1)) rfl ?_
          refine w_m0 (pc1 := 36) (st1 := .ref 59 :: _) rfl rfl rfl rfl ?_
          refine w_an_y (A := 87) (Bn := 39) (ok_kd) (by decide) (hk) rfl rfl rfl ?_
          refine w_p (pc1 := 40) rfl rfl ?_
          refine w_m0 (pc1 := 43) rfl rfl (h_gC rfl rfl rfl rfl) rfl ?_
          refine w_m0 (pc1 := 46) (st1 := .ref (kd B n s.1) :: _) rfl rfl (h_gRs (j := 6) rfl rfl rfl rfl rfl (tkS_tok F.1)) rfl ?_
          refine w_m0 (pc1 := 49) (st1 := .ref 58 :: _) rfl rfl rfl rfl ?_
          refine w_an_n (A := 57) (ok_kd) (by decide) (by rw [hk]; decide) rfl rfl ?_
          refine w_p (pc1 := 59) (st1 := .int 12 :: _) rfl rfl ?_
          refine w_p (pc1 := 60) (al1 := [(2, .int 12), (1, .int (nI (k))), (0, .ref 121)]) rfl rfl ?_
          refine w_p (pc1 := 61) rfl rfl ?_
          refine w_ji (pc1 := 64) (vs := [.ref 121]) (rest := []) (rE (d := _) F h1) rfl rfl rfl (fun _ _ => rfl) rfl (by exact cl_v my_60 rfl rfl rfl (Nat.le_of_ble_eq_true rfl) rfl (MH_obj rfl rfl) rfl (by decide) rfl rfl) (by rfl) (Nat.le_of_ble_eq_true rfl) (Nat.le_of_ble_eq_true rfl) rfl (fun v h1 d1 hq => ?_) (fun a h1 d1 hq => ?_)
          · exact hq.elim
          · rcases hq with ⟨C9, f9, S9, ha, hh, hn⟩
            · subst ha; subst hh; subst hn
              refine Or.inl ⟨ch_new (by decide) rfl, ?_⟩
              exact ⟨C9, f9, S9, rfl, rfl, rfl⟩
    have hx := spd_s h1
    have hxq : (nxt y).2.2.1 = s.2.2.1 := hx.2.2
    have hky : kd B n y.1 ≠ 1 ∧ kd B n y.1 ≠ 2 := by rw [hx.1]; exact hnk
    rcases bnd_e h with h2 | ⟨x, h2, h⟩
    · skip
      cases u with
      | none =>
        rcases hop with hk | hk
        · skip
          refine w_p (pc1 := 7) rfl rfl ?_
          refine w_p (pc1 := 10) (st1 := .int 600 :: _) rfl rfl ?_
          refine w_f (a := 87) (b := 13) (bN_ge_f (a := k) (b := 600) (by omega) (by omega) (by omega)) rfl rfl ?_
          refine w_p (pc1 := 14) rfl rfl ?_
          refine w_m0 (pc1 := 17) rfl rfl (h_gC rfl rfl rfl rfl) rfl ?_
          refine w_m0 (pc1 := 20) (st1 := .ref (kd B n s.1) :: _) rfl rfl (h_gRs (j := 6) rfl rfl rfl rfl rfl (tkS_tok F.1)) rfl ?_
          refine w_m0 (pc1 := 23) (st1 := .ref 58 :: _) rfl rfl rfl rfl ?_
          refine w_ae_y (A := 39) (ok_kd) (by decide) (hk) rfl rfl ?_
          refine w_p (pc1 := 40) rfl rfl ?_
          refine w_m0 (pc1 := 43) rfl rfl (h_gC rfl rfl rfl rfl) rfl ?_
          refine w_m0 (pc1 := 46) (st1 := .ref (kd B n s.1) :: _) rfl rfl (h_gRs (j := 6) rfl rfl rfl rfl rfl (tkS_tok F.1)) rfl ?_
          refine w_m0 (pc1 := 49) (st1 := .ref 58 :: _) rfl rfl rfl rfl ?_
          refine w_an_y (A := 57) (Bn := 52) (ok_kd) (by decide) (hk) rfl rfl rfl ?_
          refine w_p (pc1 := 54) (st1 := .int 11 :: _) rfl rfl ?_
          refine w_p (pc1 := 59) rfl rfl ?_
          refine w_p (pc1 := 60) (al1 := [(2, .int 11), (1, .int (nI (k))), (0, .ref 121)]) rfl rfl ?_
          refine w_p (pc1 := 61) rfl rfl ?_
          refine w_ji (pc1 := 64) (vs := [.ref 121]) (rest := []) (rR (d := _) F h1) rfl rfl rfl (fun _ _ => rfl) rfl (by exact cl_v my_60 rfl rfl rfl (Nat.le_of_ble_eq_true rfl) rfl (MH_obj rfl rfl) rfl (by decide) rfl rfl) (by rfl) (Nat.le_of_ble_eq_true rfl) (Nat.le_of_ble_eq_true rfl) rfl (fun v h1 d1 hq => ?_) (fun _ _ _ e => e.elim)
          rcases hq with ⟨hv, ⟨C1, F1, hh⟩, hn⟩
          · subst hv; subst hh; subst hn
            refine w_p (pc1 := 65) rfl rfl ?_
            refine w_m0 (pc1 := 68) rfl rfl (h_gC rfl rfl rfl rfl) rfl ?_
            refine w_ji (pc1 := 71) (vs := [.ref 101]) (rest := []) (nR (d := _) F1 hky) rfl rfl rfl (fun _ _ => rfl) rfl (by exact cl_v my_21 rfl rfl rfl (Nat.le_of_ble_eq_true rfl) rfl (MH_obj rfl rfl) rfl (by decide) rfl rfl) (by rfl) (Nat.le_of_ble_eq_true rfl) (Nat.le_of_ble_eq_true rfl) rfl (fun v h1 d1 hq => ?_) (fun _ _ _ e => e.elim)
            rcases hq with ⟨hv, ⟨C2, F2, hh⟩, hn⟩
            · subst hv; subst hh; subst hn
              refine w_p (pc1 := 72) rfl rfl ?_
              refine w_ji (pc1 := 75) (vs := [.ref 121]) (rest := []) (Wd_up (by rw [hxq]; omega) (jh (nxt y) c i _ h2 hc F2)) rfl rfl rfl (fun _ _ => rfl) rfl (by exact cl_v my_64 rfl rfl rfl (Nat.le_of_ble_eq_true rfl) rfl (MH_obj rfl rfl) rfl (by decide) rfl rfl) (by rfl) (Nat.le_of_ble_eq_true rfl) (Nat.le_of_ble_eq_true rfl) rfl (fun v h1 d1 hq => ?_) (fun a h1 d1 hq => ?_)
              · exact hq.elim
              · rcases hq with ⟨C9, f9, S9, ha, hh, hn⟩
                · subst ha; subst hh; subst hn
                  refine Or.inl ⟨ch_new (by decide) rfl, ?_⟩
                  exact ⟨C9, f9, S9, rfl, rfl, rfl⟩
        · skip
          refine w_p (pc1 := 7) rfl rfl ?_
          refine w_p (pc1 := 10) (st1 := .int 600 :: _) rfl rfl ?_
          refine w_f (a := 87) (b := 13) (bN_ge_f (a := k) (b := 600) (by omega) (by omega) (by omega)) rfl rfl ?_
          refine w_p (pc1 := 14) rfl rfl ?_
          refine w_m0 (pc1 := 17) rfl rfl (h_gC rfl rfl rfl rfl) rfl ?_
          refine w_m0 (pc1 := 20) (st1 := .ref (kd B n s.1) :: _) rfl rfl (h_gRs (j := 6) rfl rfl rfl rfl rfl (tkS_tok F.1)) rfl ?_
          refine w_m0 (pc1 := 23) (st1 := .ref 58 :: _) rfl rfl rfl rfl ?_
          refine w_ae_n (A := 39) (Bn := 26) (ok_kd) (by decide) (by rw [hk]; decide) rfl rfl rfl ?_
          refine w_p (pc1 := 27) rfl rfl ?_
          refine w_m0 (pc1 := 30) rfl rfl (h_gC rfl rfl rfl rfl) rfl ?_
          refine w_m0 (pc1 := 33) (st1 := .ref (kd B n s.1) :: _) rfl rfl (h_gRs (j := 6) rfl rfl rfl rfl rfl (tkS_tok F.1)) rfl ?_
          refine w_m0 (pc1 := 36) (st1 := .ref 59 :: _) rfl rfl rfl rfl ?_
          refine w_an_y (A := 87) (Bn := 39) (ok_kd) (by decide) (hk) rfl rfl rfl ?_
          refine w_p (pc1 := 40) rfl rfl ?_
          refine w_m0 (pc1 := 43) rfl rfl (h_gC rfl rfl rfl rfl) rfl ?_
          refine w_m0 (pc1 := 46) (st1 := .ref (kd B n s.1) :: _) rfl rfl (h_gRs (j := 6) rfl rfl rfl rfl rfl (tkS_tok F.1)) rfl ?_
          refine w_m0 (pc1 := 49) (st1 := .ref 58 :: _) rfl rfl rfl rfl ?_
          refine w_an_n (A := 57) (ok_kd) (by decide) (by rw [hk]; decide) rfl rfl ?_
          refine w_p (pc1 := 59) (st1 := .int 12 :: _) rfl rfl ?_
          refine w_p (pc1 := 60) (al1 := [(2, .int 12), (1, .int (nI (k))), (0, .ref 121)]) rfl rfl ?_
          refine w_p (pc1 := 61) rfl rfl ?_
          refine w_ji (pc1 := 64) (vs := [.ref 121]) (rest := []) (rR (d := _) F h1) rfl rfl rfl (fun _ _ => rfl) rfl (by exact cl_v my_60 rfl rfl rfl (Nat.le_of_ble_eq_true rfl) rfl (MH_obj rfl rfl) rfl (by decide) rfl rfl) (by rfl) (Nat.le_of_ble_eq_true rfl) (Nat.le_of_ble_eq_true rfl) rfl (fun v h1 d1 hq => ?_) (fun _ _ _ e => e.elim)
          rcases hq with ⟨hv, ⟨C1, F1, hh⟩, hn⟩
          · subst hv; subst hh; subst hn
            refine w_p (pc1 := 65) rfl rfl ?_
            refine w_m0 (pc1 := 68) rfl rfl (h_gC rfl rfl rfl rfl) rfl ?_
            refine w_ji (pc1 := 71) (vs := [.ref 101]) (rest := []) (nR (d := _) F1 hky) rfl rfl rfl (fun _ _ => rfl) rfl (by exact cl_v my_21 rfl rfl rfl (Nat.le_of_ble_eq_true rfl) rfl (MH_obj rfl rfl) rfl (by decide) rfl rfl) (by rfl) (Nat.le_of_ble_eq_true rfl) (Nat.le_of_ble_eq_true rfl) rfl (fun v h1 d1 hq => ?_) (fun _ _ _ e => e.elim)
            rcases hq with ⟨hv, ⟨C2, F2, hh⟩, hn⟩
            · subst hv; subst hh; subst hn
              refine w_p (pc1 := 72) rfl rfl ?_
              refine w_ji (pc1 := 75) (vs := [.ref 121]) (rest := []) (Wd_up (by rw [hxq]; omega) (jh (nxt y) c i _ h2 hc F2)) rfl rfl rfl (fun _ _ => rfl) rfl (by exact cl_v my_64 rfl rfl rfl (Nat.le_of_ble_eq_true rfl) rfl (MH_obj rfl rfl) rfl (by decide) rfl rfl) (by rfl) (Nat.le_of_ble_eq_true rfl) (Nat.le_of_ble_eq_true rfl) rfl (fun v h1 d1 hq => ?_) (fun a h1 d1 hq => ?_)
              · exact hq.elim
              · rcases hq with ⟨C9, f9, S9, ha, hh, hn⟩
                · subst ha; subst hh; subst hn
                  refine Or.inl ⟨ch_new (by decide) rfl, ?_⟩
                  exact ⟨C9, f9, S9, rfl, rfl, rfl⟩
      | some x2 =>
        rcases hop with hk | hk
        · skip
          refine w_p (pc1 := 7) rfl rfl ?_
          refine w_p (pc1 := 10) (st1 := .int 600 :: _) rfl rfl ?_
          refine w_f (a := 87) (b := 13) (bN_ge_f (a := k) (b := 600) (by omega) (by omega) (by omega)) rfl rfl ?_
          refine w_p (pc1 := 14) rfl rfl ?_
          refine w_m0 (pc1 := 17) rfl rfl (h_gC rfl rfl rfl rfl) rfl ?_
          refine w_m0 (pc1 := 20) (st1 := .ref (kd B n s.1) :: _) rfl rfl (h_gRs (j := 6) rfl rfl rfl rfl rfl (tkS_tok F.1)) rfl ?_
          refine w_m0 (pc1 := 23) (st1 := .ref 58 :: _) rfl rfl rfl rfl ?_
          refine w_ae_y (A := 39) (ok_kd) (by decide) (hk) rfl rfl ?_
          refine w_p (pc1 := 40) rfl rfl ?_
          refine w_m0 (pc1 := 43) rfl rfl (h_gC rfl rfl rfl rfl) rfl ?_
          refine w_m0 (pc1 := 46) (st1 := .ref (kd B n s.1) :: _) rfl rfl (h_gRs (j := 6) rfl rfl rfl rfl rfl (tkS_tok F.1)) rfl ?_
          refine w_m0 (pc1 := 49) (st1 := .ref 58 :: _) rfl rfl rfl rfl ?_
          refine w_an_y (A := 57) (Bn := 52) (ok_kd) (by decide) (hk) rfl rfl rfl ?_
          refine w_p (pc1 := 54) (st1 := .int 11 :: _) rfl rfl ?_
          refine w_p (pc1 := 59) rfl rfl ?_
          refine w_p (pc1 := 60) (al1 := [(2, .int 11), (1, .int (nI (k))), (0, .ref 121)]) rfl rfl ?_
          refine w_p (pc1 := 61) rfl rfl ?_
          refine w_ji (pc1 := 64) (vs := [.ref 121]) (rest := []) (rR (d := _) F h1) rfl rfl rfl (fun _ _ => rfl) rfl (by exact cl_v my_60 rfl rfl rfl (Nat.le_of_ble_eq_true rfl) rfl (MH_obj rfl rfl) rfl (by decide) rfl rfl) (by rfl) (Nat.le_of_ble_eq_true rfl) (Nat.le_of_ble_eq_true rfl) rfl (fun v h1 d1 hq => ?_) (fun _ _ _ e => e.elim)
          rcases hq with ⟨hv, ⟨C1, F1, hh⟩, hn⟩
          · subst hv; subst hh; subst hn
            refine w_p (pc1 := 65) rfl rfl ?_
            refine w_m0 (pc1 := 68) rfl rfl (h_gC rfl rfl rfl rfl) rfl ?_
            refine w_ji (pc1 := 71) (vs := [.ref 101]) (rest := []) (nR (d := _) F1 hky) rfl rfl rfl (fun _ _ => rfl) rfl (by exact cl_v my_21 rfl rfl rfl (Nat.le_of_ble_eq_true rfl) rfl (MH_obj rfl rfl) rfl (by decide) rfl rfl) (by rfl) (Nat.le_of_ble_eq_true rfl) (Nat.le_of_ble_eq_true rfl) rfl (fun v h1 d1 hq => ?_) (fun _ _ _ e => e.elim)
            rcases hq with ⟨hv, ⟨C2, F2, hh⟩, hn⟩
            · subst hv; subst hh; subst hn
              refine w_p (pc1 := 72) rfl rfl ?_
              refine w_ji (pc1 := 75) (vs := [.ref 121]) (rest := []) (Wd_up (by rw [hxq]; omega) (jh (nxt y) c i _ h2 hc F2)) rfl rfl rfl (fun _ _ => rfl) rfl (by exact cl_v my_64 rfl rfl rfl (Nat.le_of_ble_eq_true rfl) rfl (MH_obj rfl rfl) rfl (by decide) rfl rfl) (by rfl) (Nat.le_of_ble_eq_true rfl) (Nat.le_of_ble_eq_true rfl) rfl (fun v h1 d1 hq => ?_) (fun a h1 d1 hq => ?_)
              · exact hq.elim
              · rcases hq with ⟨C9, f9, S9, ha, hh, hn⟩
                · subst ha; subst hh; subst hn
                  refine Or.inl ⟨ch_new (by decide) rfl, ?_⟩
                  exact ⟨C9, f9, S9, rfl, rfl, rfl⟩
        · skip
          refine w_p (pc1 := 7) rfl rfl ?_
          refine w_p (pc1 := 10) (st1 := .int 600 :: _) rfl rfl ?_
          refine w_f (a := 87) (b := 13) (bN_ge_f (a := k) (b := 600) (by omega) (by omega) (by omega)) rfl rfl ?_
          refine w_p (pc1 := 14) rfl rfl ?_
          refine w_m0 (pc1 := 17) rfl rfl (h_gC rfl rfl rfl rfl) rfl ?_
          refine w_m0 (pc1 := 20) (st1 := .ref (kd B n s.1) :: _) rfl rfl (h_gRs (j := 6) rfl rfl rfl rfl rfl (tkS_tok F.1)) rfl ?_
          refine w_m0 (pc1 := 23) (st1 := .ref 58 :: _) rfl rfl rfl rfl ?_
          refine w_ae_n (A := 39) (Bn := 26) (ok_kd) (by decide) (by rw [hk]; decide) rfl rfl rfl ?_
          refine w_p (pc1 := 27) rfl rfl ?_
          refine w_m0 (pc1 := 30) rfl rfl (h_gC rfl rfl rfl rfl) rfl ?_
          refine w_m0 (pc1 := 33) (st1 := .ref (kd B n s.1) :: _) rfl rfl (h_gRs (j := 6) rfl rfl rfl rfl rfl (tkS_tok F.1)) rfl ?_
          refine w_m0 (pc1 := 36) (st1 := .ref 59 :: _) rfl rfl rfl rfl ?_
          refine w_an_y (A := 87) (Bn := 39) (ok_kd) (by decide) (hk) rfl rfl rfl ?_
          refine w_p (pc1 := 40) rfl rfl ?_
          refine w_m0 (pc1 := 43) rfl rfl (h_gC rfl rfl rfl rfl) rfl ?_
          refine w_m0 (pc1 := 46) (st1 := .ref (kd B n s.1) :: _) rfl rfl (h_gRs (j := 6) rfl rfl rfl rfl rfl (tkS_tok F.1)) rfl ?_
          refine w_m0 (pc1 := 49) (st1 := .ref 58 :: _) rfl rfl rfl rfl ?_
          refine w_an_n (A := 57) (ok_kd) (by decide) (by rw [hk]; decide) rfl rfl ?_
          refine w_p (pc1 := 59) (st1 := .int 12 :: _) rfl rfl ?_
          refine w_p (pc1 := 60) (al1 := [(2, .int 12), (1, .int (nI (k))), (0, .ref 121)]) rfl rfl ?_
          refine w_p (pc1 := 61) rfl rfl ?_
          refine w_ji (pc1 := 64) (vs := [.ref 121]) (rest := []) (rR (d := _) F h1) rfl rfl rfl (fun _ _ => rfl) rfl (by exact cl_v my_60 rfl rfl rfl (Nat.le_of_ble_eq_true rfl) rfl (MH_obj rfl rfl) rfl (by decide) rfl rfl) (by rfl) (Nat.le_of_ble_eq_true rfl) (Nat.le_of_ble_eq_true rfl) rfl (fun v h1 d1 hq => ?_) (fun _ _ _ e => e.elim)
          rcases hq with ⟨hv, ⟨C1, F1, hh⟩, hn⟩
          · subst hv; subst hh; subst hn
            refine w_p (pc1 := 65) rfl rfl ?_
            refine w_m0 (pc1 := 68) rfl rfl (h_gC rfl rfl rfl rfl) rfl ?_
            refine w_ji (pc1 := 71) (vs := [.ref 101]) (rest := []) (nR (d := _) F1 hky) rfl rfl rfl (fun _ _ => rfl) rfl (by exact cl_v my_21 rfl rfl rfl (Nat.le_of_ble_eq_true rfl) rfl (MH_obj rfl rfl) rfl (by decide) rfl rfl) (by rfl) (Nat.le_of_ble_eq_true rfl) (Nat.le_of_ble_eq_true rfl) rfl (fun v h1 d1 hq => ?_) (fun _ _ _ e => e.elim)
            rcases hq with ⟨hv, ⟨C2, F2, hh⟩, hn⟩
            · subst hv; subst hh; subst hn
              refine w_p (pc1 := 72) rfl rfl ?_
              refine w_ji (pc1 := 75) (vs := [.ref 121]) (rest := []) (Wd_up (by rw [hxq]; omega) (jh (nxt y) c i _ h2 hc F2)) rfl rfl rfl (fun _ _ => rfl) rfl (by exact cl_v my_64 rfl rfl rfl (Nat.le_of_ble_eq_true rfl) rfl (MH_obj rfl rfl) rfl (by decide) rfl rfl) (by rfl) (Nat.le_of_ble_eq_true rfl) (Nat.le_of_ble_eq_true rfl) rfl (fun v h1 d1 hq => ?_) (fun a h1 d1 hq => ?_)
              · exact hq.elim
              · rcases hq with ⟨C9, f9, S9, ha, hh, hn⟩
                · subst ha; subst hh; subst hn
                  refine Or.inl ⟨ch_new (by decide) rfl, ?_⟩
                  exact ⟨C9, f9, S9, rfl, rfl, rfl⟩
    have hf := rd_fle _ _ _ _ h2
    have ho := fle_o (a := 0) (b := 0) h1 hf
    have hl := F.2.1
    have hul : x.2.1.length + 1 ≤ x.1 := by have := ho.2.1; omega
    have hxx : x.2.2.1 = s.2.2.1 := by rw [hf.2.2]; exact hxq
    have hk1 : k + 1 ≤ x.1 := by have := ho.2.2; omega
    cases u with
    | none =>
      rcases hop with hk | hk
      · skip
        rw [if_pos hk] at h
        refine w_p (pc1 := 7) rfl rfl ?_
        refine w_p (pc1 := 10) (st1 := .int 600 :: _) rfl rfl ?_
        refine w_f (a := 87) (b := 13) (bN_ge_f (a := k) (b := 600) (by omega) (by omega) (by omega)) rfl rfl ?_
        refine w_p (pc1 := 14) rfl rfl ?_
        refine w_m0 (pc1 := 17) rfl rfl (h_gC rfl rfl rfl rfl) rfl ?_
        refine w_m0 (pc1 := 20) (st1 := .ref (kd B n s.1) :: _) rfl rfl (h_gRs (j := 6) rfl rfl rfl rfl rfl (tkS_tok F.1)) rfl ?_
        refine w_m0 (pc1 := 23) (st1 := .ref 58 :: _) rfl rfl rfl rfl ?_
        refine w_ae_y (A := 39) (ok_kd) (by decide) (hk) rfl rfl ?_
        refine w_p (pc1 := 40) rfl rfl ?_
        refine w_m0 (pc1 := 43) rfl rfl (h_gC rfl rfl rfl rfl) rfl ?_
        refine w_m0 (pc1 := 46) (st1 := .ref (kd B n s.1) :: _) rfl rfl (h_gRs (j := 6) rfl rfl rfl rfl rfl (tkS_tok F.1)) rfl ?_
        refine w_m0 (pc1 := 49) (st1 := .ref 58 :: _) rfl rfl rfl rfl ?_
        refine w_an_y (A := 57) (Bn := 52) (ok_kd) (by decide) (hk) rfl rfl rfl ?_
        refine w_p (pc1 := 54) (st1 := .int 11 :: _) rfl rfl ?_
        refine w_p (pc1 := 59) rfl rfl ?_
        refine w_p (pc1 := 60) (al1 := [(2, .int 11), (1, .int (nI (k))), (0, .ref 121)]) rfl rfl ?_
        refine w_p (pc1 := 61) rfl rfl ?_
        refine w_ji (pc1 := 64) (vs := [.ref 121]) (rest := []) (rR (d := _) F h1) rfl rfl rfl (fun _ _ => rfl) rfl (by exact cl_v my_60 rfl rfl rfl (Nat.le_of_ble_eq_true rfl) rfl (MH_obj rfl rfl) rfl (by decide) rfl rfl) (by rfl) (Nat.le_of_ble_eq_true rfl) (Nat.le_of_ble_eq_true rfl) rfl (fun v h1 d1 hq => ?_) (fun _ _ _ e => e.elim)
        rcases hq with ⟨hv, ⟨C1, F1, hh⟩, hn⟩
        · subst hv; subst hh; subst hn
          refine w_p (pc1 := 65) rfl rfl ?_
          refine w_m0 (pc1 := 68) rfl rfl (h_gC rfl rfl rfl rfl) rfl ?_
          refine w_ji (pc1 := 71) (vs := [.ref 101]) (rest := []) (nR (d := _) F1 hky) rfl rfl rfl (fun _ _ => rfl) rfl (by exact cl_v my_21 rfl rfl rfl (Nat.le_of_ble_eq_true rfl) rfl (MH_obj rfl rfl) rfl (by decide) rfl rfl) (by rfl) (Nat.le_of_ble_eq_true rfl) (Nat.le_of_ble_eq_true rfl) rfl (fun v h1 d1 hq => ?_) (fun _ _ _ e => e.elim)
          rcases hq with ⟨hv, ⟨C2, F2, hh⟩, hn⟩
          · subst hv; subst hh; subst hn
            refine w_p (pc1 := 72) rfl rfl ?_
            refine w_ji (pc1 := 75) (vs := [.ref 121]) (rest := []) (Wd_up (by rw [hxq]; omega) (ih (nxt y) x _ h2 F2)) rfl rfl rfl (fun _ _ => rfl) rfl (by exact cl_v my_64 rfl rfl rfl (Nat.le_of_ble_eq_true rfl) rfl (MH_obj rfl rfl) rfl (by decide) rfl rfl) (by rfl) (Nat.le_of_ble_eq_true rfl) (Nat.le_of_ble_eq_true rfl) rfl (fun v h1 d1 hq => ?_) (fun _ _ _ e => e.elim)
            rcases hq with ⟨hv, ⟨C3, F3, hh⟩, hn⟩
            · subst hv; subst hh; subst hn
              refine w_p (pc1 := 76) rfl rfl ?_
              refine w_p (pc1 := 77) rfl rfl ?_
              refine w_p (pc1 := 78) (st1 := .int 0 :: _) rfl rfl ?_
              refine w_ji (pc1 := 81) (vs := [.ref 121, .int 11, .int 0]) (rest := []) (eR (d := _) F3 hul) rfl rfl rfl (fun _ _ => rfl) rfl (by exact cl_v my_61 rfl rfl rfl (Nat.le_of_ble_eq_true rfl) rfl (MH_obj rfl rfl) rfl (by decide) rfl rfl) (by rfl) (Nat.le_of_ble_eq_true rfl) (Nat.le_of_ble_eq_true rfl) rfl (fun v h1 d1 hq => ?_) (fun _ _ _ e => e.elim)
              rcases hq with ⟨hv, ⟨C4, F4, hh⟩, hn⟩
              · subst hv; subst hh; subst hn
                refine w_iinc (pc1 := 84) (u := nI (k)) (z := nI (k + 1)) (al1 := [(1, .int (nI (k + 1))), (2, .int 11), (0, .ref 121)]) rfl rfl rfl nK_1 rfl rfl ?_
                refine w_p (pc1 := 6) rfl rfl ?_
                exact Wd_up (by have e : (emt x 11 0).2.2.1 = s.2.2.1 := hxx; rw [e]; exact Nat.le_refl _) (jl (emt x 11 0) c i _ (k + 1) (some 11) (fun e => by cases e) h hc F4 hk1)
      · skip
        rw [if_neg (by rw [hk]; decide)] at h
        refine w_p (pc1 := 7) rfl rfl ?_
        refine w_p (pc1 := 10) (st1 := .int 600 :: _) rfl rfl ?_
        refine w_f (a := 87) (b := 13) (bN_ge_f (a := k) (b := 600) (by omega) (by omega) (by omega)) rfl rfl ?_
        refine w_p (pc1 := 14) rfl rfl ?_
        refine w_m0 (pc1 := 17) rfl rfl (h_gC rfl rfl rfl rfl) rfl ?_
        refine w_m0 (pc1 := 20) (st1 := .ref (kd B n s.1) :: _) rfl rfl (h_gRs (j := 6) rfl rfl rfl rfl rfl (tkS_tok F.1)) rfl ?_
        refine w_m0 (pc1 := 23) (st1 := .ref 58 :: _) rfl rfl rfl rfl ?_
        refine w_ae_n (A := 39) (Bn := 26) (ok_kd) (by decide) (by rw [hk]; decide) rfl rfl rfl ?_
        refine w_p (pc1 := 27) rfl rfl ?_
        refine w_m0 (pc1 := 30) rfl rfl (h_gC rfl rfl rfl rfl) rfl ?_
        refine w_m0 (pc1 := 33) (st1 := .ref (kd B n s.1) :: _) rfl rfl (h_gRs (j := 6) rfl rfl rfl rfl rfl (tkS_tok F.1)) rfl ?_
        refine w_m0 (pc1 := 36) (st1 := .ref 59 :: _) rfl rfl rfl rfl ?_
        refine w_an_y (A := 87) (Bn := 39) (ok_kd) (by decide) (hk) rfl rfl rfl ?_
        refine w_p (pc1 := 40) rfl rfl ?_
        refine w_m0 (pc1 := 43) rfl rfl (h_gC rfl rfl rfl rfl) rfl ?_
        refine w_m0 (pc1 := 46) (st1 := .ref (kd B n s.1) :: _) rfl rfl (h_gRs (j := 6) rfl rfl rfl rfl rfl (tkS_tok F.1)) rfl ?_
        refine w_m0 (pc1 := 49) (st1 := .ref 58 :: _) rfl rfl rfl rfl ?_
        refine w_an_n (A := 57) (ok_kd) (by decide) (by rw [hk]; decide) rfl rfl ?_
        refine w_p (pc1 := 59) (st1 := .int 12 :: _) rfl rfl ?_
        refine w_p (pc1 := 60) (al1 := [(2, .int 12), (1, .int (nI (k))), (0, .ref 121)]) rfl rfl ?_
        refine w_p (pc1 := 61) rfl rfl ?_
        refine w_ji (pc1 := 64) (vs := [.ref 121]) (rest := []) (rR (d := _) F h1) rfl rfl rfl (fun _ _ => rfl) rfl (by exact cl_v my_60 rfl rfl rfl (Nat.le_of_ble_eq_true rfl) rfl (MH_obj rfl rfl) rfl (by decide) rfl rfl) (by rfl) (Nat.le_of_ble_eq_true rfl) (Nat.le_of_ble_eq_true rfl) rfl (fun v h1 d1 hq => ?_) (fun _ _ _ e => e.elim)
        rcases hq with ⟨hv, ⟨C1, F1, hh⟩, hn⟩
        · subst hv; subst hh; subst hn
          refine w_p (pc1 := 65) rfl rfl ?_
          refine w_m0 (pc1 := 68) rfl rfl (h_gC rfl rfl rfl rfl) rfl ?_
          refine w_ji (pc1 := 71) (vs := [.ref 101]) (rest := []) (nR (d := _) F1 hky) rfl rfl rfl (fun _ _ => rfl) rfl (by exact cl_v my_21 rfl rfl rfl (Nat.le_of_ble_eq_true rfl) rfl (MH_obj rfl rfl) rfl (by decide) rfl rfl) (by rfl) (Nat.le_of_ble_eq_true rfl) (Nat.le_of_ble_eq_true rfl) rfl (fun v h1 d1 hq => ?_) (fun _ _ _ e => e.elim)
          rcases hq with ⟨hv, ⟨C2, F2, hh⟩, hn⟩
          · subst hv; subst hh; subst hn
            refine w_p (pc1 := 72) rfl rfl ?_
            refine w_ji (pc1 := 75) (vs := [.ref 121]) (rest := []) (Wd_up (by rw [hxq]; omega) (ih (nxt y) x _ h2 F2)) rfl rfl rfl (fun _ _ => rfl) rfl (by exact cl_v my_64 rfl rfl rfl (Nat.le_of_ble_eq_true rfl) rfl (MH_obj rfl rfl) rfl (by decide) rfl rfl) (by rfl) (Nat.le_of_ble_eq_true rfl) (Nat.le_of_ble_eq_true rfl) rfl (fun v h1 d1 hq => ?_) (fun _ _ _ e => e.elim)
            rcases hq with ⟨hv, ⟨C3, F3, hh⟩, hn⟩
            · subst hv; subst hh; subst hn
              refine w_p (pc1 := 76) rfl rfl ?_
              refine w_p (pc1 := 77) rfl rfl ?_
              refine w_p (pc1 := 78) (st1 := .int 0 :: _) rfl rfl ?_
              refine w_ji (pc1 := 81) (vs := [.ref 121, .int 12, .int 0]) (rest := []) (eR (d := _) F3 hul) rfl rfl rfl (fun _ _ => rfl) rfl (by exact cl_v my_61 rfl rfl rfl (Nat.le_of_ble_eq_true rfl) rfl (MH_obj rfl rfl) rfl (by decide) rfl rfl) (by rfl) (Nat.le_of_ble_eq_true rfl) (Nat.le_of_ble_eq_true rfl) rfl (fun v h1 d1 hq => ?_) (fun _ _ _ e => e.elim)
              rcases hq with ⟨hv, ⟨C4, F4, hh⟩, hn⟩
              · subst hv; subst hh; subst hn
                refine w_iinc (pc1 := 84) (u := nI (k)) (z := nI (k + 1)) (al1 := [(1, .int (nI (k + 1))), (2, .int 12), (0, .ref 121)]) rfl rfl rfl nK_1 rfl rfl ?_
                refine w_p (pc1 := 6) rfl rfl ?_
                exact Wd_up (by have e : (emt x 12 0).2.2.1 = s.2.2.1 := hxx; rw [e]; exact Nat.le_refl _) (jl (emt x 12 0) c i _ (k + 1) (some 12) (fun e => by cases e) h hc F4 hk1)
    | some x2 =>
      rcases hop with hk | hk
      · skip
        rw [if_pos hk] at h
        refine w_p (pc1 := 7) rfl rfl ?_
        refine w_p (pc1 := 10) (st1 := .int 600 :: _) rfl rfl ?_
        refine w_f (a := 87) (b := 13) (bN_ge_f (a := k) (b := 600) (by omega) (by omega) (by omega)) rfl rfl ?_
        refine w_p (pc1 := 14) rfl rfl ?_
        refine w_m0 (pc1 := 17) rfl rfl (h_gC rfl rfl rfl rfl) rfl ?_
        refine w_m0 (pc1 := 20) (st1 := .ref (kd B n s.1) :: _) rfl rfl (h_gRs (j := 6) rfl rfl rfl rfl rfl (tkS_tok F.1)) rfl ?_
        refine w_m0 (pc1 := 23) (st1 := .ref 58 :: _) rfl rfl rfl rfl ?_
        refine w_ae_y (A := 39) (ok_kd) (by decide) (hk) rfl rfl ?_
        refine w_p (pc1 := 40) rfl rfl ?_
        refine w_m0 (pc1 := 43) rfl rfl (h_gC rfl rfl rfl rfl) rfl ?_
        refine w_m0 (pc1 := 46) (st1 := .ref (kd B n s.1) :: _) rfl rfl (h_gRs (j := 6) rfl rfl rfl rfl rfl (tkS_tok F.1)) rfl ?_
        refine w_m0 (pc1 := 49) (st1 := .ref 58 :: _) rfl rfl rfl rfl ?_
        refine w_an_y (A := 57) (Bn := 52) (ok_kd) (by decide) (hk) rfl rfl rfl ?_
        refine w_p (pc1 := 54) (st1 := .int 11 :: _) rfl rfl ?_
        refine w_p (pc1 := 59) rfl rfl ?_
        refine w_p (pc1 := 60) (al1 := [(2, .int 11), (1, .int (nI (k))), (0, .ref 121)]) rfl rfl ?_
        refine w_p (pc1 := 61) rfl rfl ?_
        refine w_ji (pc1 := 64) (vs := [.ref 121]) (rest := []) (rR (d := _) F h1) rfl rfl rfl (fun _ _ => rfl) rfl (by exact cl_v my_60 rfl rfl rfl (Nat.le_of_ble_eq_true rfl) rfl (MH_obj rfl rfl) rfl (by decide) rfl rfl) (by rfl) (Nat.le_of_ble_eq_true rfl) (Nat.le_of_ble_eq_true rfl) rfl (fun v h1 d1 hq => ?_) (fun _ _ _ e => e.elim)
        rcases hq with ⟨hv, ⟨C1, F1, hh⟩, hn⟩
        · subst hv; subst hh; subst hn
          refine w_p (pc1 := 65) rfl rfl ?_
          refine w_m0 (pc1 := 68) rfl rfl (h_gC rfl rfl rfl rfl) rfl ?_
          refine w_ji (pc1 := 71) (vs := [.ref 101]) (rest := []) (nR (d := _) F1 hky) rfl rfl rfl (fun _ _ => rfl) rfl (by exact cl_v my_21 rfl rfl rfl (Nat.le_of_ble_eq_true rfl) rfl (MH_obj rfl rfl) rfl (by decide) rfl rfl) (by rfl) (Nat.le_of_ble_eq_true rfl) (Nat.le_of_ble_eq_true rfl) rfl (fun v h1 d1 hq => ?_) (fun _ _ _ e => e.elim)
          rcases hq with ⟨hv, ⟨C2, F2, hh⟩, hn⟩
          · subst hv; subst hh; subst hn
            refine w_p (pc1 := 72) rfl rfl ?_
            refine w_ji (pc1 := 75) (vs := [.ref 121]) (rest := []) (Wd_up (by rw [hxq]; omega) (ih (nxt y) x _ h2 F2)) rfl rfl rfl (fun _ _ => rfl) rfl (by exact cl_v my_64 rfl rfl rfl (Nat.le_of_ble_eq_true rfl) rfl (MH_obj rfl rfl) rfl (by decide) rfl rfl) (by rfl) (Nat.le_of_ble_eq_true rfl) (Nat.le_of_ble_eq_true rfl) rfl (fun v h1 d1 hq => ?_) (fun _ _ _ e => e.elim)
            rcases hq with ⟨hv, ⟨C3, F3, hh⟩, hn⟩
            · subst hv; subst hh; subst hn
              refine w_p (pc1 := 76) rfl rfl ?_
              refine w_p (pc1 := 77) rfl rfl ?_
              refine w_p (pc1 := 78) (st1 := .int 0 :: _) rfl rfl ?_
              refine w_ji (pc1 := 81) (vs := [.ref 121, .int 11, .int 0]) (rest := []) (eR (d := _) F3 hul) rfl rfl rfl (fun _ _ => rfl) rfl (by exact cl_v my_61 rfl rfl rfl (Nat.le_of_ble_eq_true rfl) rfl (MH_obj rfl rfl) rfl (by decide) rfl rfl) (by rfl) (Nat.le_of_ble_eq_true rfl) (Nat.le_of_ble_eq_true rfl) rfl (fun v h1 d1 hq => ?_) (fun _ _ _ e => e.elim)
              rcases hq with ⟨hv, ⟨C4, F4, hh⟩, hn⟩
              · subst hv; subst hh; subst hn
                refine w_iinc (pc1 := 84) (u := nI (k)) (z := nI (k + 1)) (al1 := [(1, .int (nI (k + 1))), (2, .int 11), (0, .ref 121)]) rfl rfl rfl nK_1 rfl rfl ?_
                refine w_p (pc1 := 6) rfl rfl ?_
                exact Wd_up (by have e : (emt x 11 0).2.2.1 = s.2.2.1 := hxx; rw [e]; exact Nat.le_refl _) (jl (emt x 11 0) c i _ (k + 1) (some 11) (fun e => by cases e) h hc F4 hk1)
      · skip
        rw [if_neg (by rw [hk]; decide)] at h
        refine w_p (pc1 := 7) rfl rfl ?_
        refine w_p (pc1 := 10) (st1 := .int 600 :: _) rfl rfl ?_
        refine w_f (a := 87) (b := 13) (bN_ge_f (a := k) (b := 600) (by omega) (by omega) (by omega)) rfl rfl ?_
        refine w_p (pc1 := 14) rfl rfl ?_
        refine w_m0 (pc1 := 17) rfl rfl (h_gC rfl rfl rfl rfl) rfl ?_
        refine w_m0 (pc1 := 20) (st1 := .ref (kd B n s.1) :: _) rfl rfl (h_gRs (j := 6) rfl rfl rfl rfl rfl (tkS_tok F.1)) rfl ?_
        refine w_m0 (pc1 := 23) (st1 := .ref 58 :: _) rfl rfl rfl rfl ?_
        refine w_ae_n (A := 39) (Bn := 26) (ok_kd) (by decide) (by rw [hk]; decide) rfl rfl rfl ?_
        refine w_p (pc1 := 27) rfl rfl ?_
        refine w_m0 (pc1 := 30) rfl rfl (h_gC rfl rfl rfl rfl) rfl ?_
        refine w_m0 (pc1 := 33) (st1 := .ref (kd B n s.1) :: _) rfl rfl (h_gRs (j := 6) rfl rfl rfl rfl rfl (tkS_tok F.1)) rfl ?_
        refine w_m0 (pc1 := 36) (st1 := .ref 59 :: _) rfl rfl rfl rfl ?_
        refine w_an_y (A := 87) (Bn := 39) (ok_kd) (by decide) (hk) rfl rfl rfl ?_
        refine w_p (pc1 := 40) rfl rfl ?_
        refine w_m0 (pc1 := 43) rfl rfl (h_gC rfl rfl rfl rfl) rfl ?_
        refine w_m0 (pc1 := 46) (st1 := .ref (kd B n s.1) :: _) rfl rfl (h_gRs (j := 6) rfl rfl rfl rfl rfl (tkS_tok F.1)) rfl ?_
        refine w_m0 (pc1 := 49) (st1 := .ref 58 :: _) rfl rfl rfl rfl ?_
        refine w_an_n (A := 57) (ok_kd) (by decide) (by rw [hk]; decide) rfl rfl ?_
        refine w_p (pc1 := 59) (st1 := .int 12 :: _) rfl rfl ?_
        refine w_p (pc1 := 60) (al1 := [(2, .int 12), (1, .int (nI (k))), (0, .ref 121)]) rfl rfl ?_
        refine w_p (pc1 := 61) rfl rfl ?_
        refine w_ji (pc1 := 64) (vs := [.ref 121]) (rest := []) (rR (d := _) F h1) rfl rfl rfl (fun _ _ => rfl) rfl (by exact cl_v my_60 rfl rfl rfl (Nat.le_of_ble_eq_true rfl) rfl (MH_obj rfl rfl) rfl (by decide) rfl rfl) (by rfl) (Nat.le_of_ble_eq_true rfl) (Nat.le_of_ble_eq_true rfl) rfl (fun v h1 d1 hq => ?_) (fun _ _ _ e => e.elim)
        rcases hq with ⟨hv, ⟨C1, F1, hh⟩, hn⟩
        · subst hv; subst hh; subst hn
          refine w_p (pc1 := 65) rfl rfl ?_
          refine w_m0 (pc1 := 68) rfl rfl (h_gC rfl rfl rfl rfl) rfl ?_
          refine w_ji (pc1 := 71) (vs := [.ref 101]) (rest := []) (nR (d := _) F1 hky) rfl rfl rfl (fun _ _ => rfl) rfl (by exact cl_v my_21 rfl rfl rfl (Nat.le_of_ble_eq_true rfl) rfl (MH_obj rfl rfl) rfl (by decide) rfl rfl) (by rfl) (Nat.le_of_ble_eq_true rfl) (Nat.le_of_ble_eq_true rfl) rfl (fun v h1 d1 hq => ?_) (fun _ _ _ e => e.elim)
          rcases hq with ⟨hv, ⟨C2, F2, hh⟩, hn⟩
          · subst hv; subst hh; subst hn
            refine w_p (pc1 := 72) rfl rfl ?_
            refine w_ji (pc1 := 75) (vs := [.ref 121]) (rest := []) (Wd_up (by rw [hxq]; omega) (ih (nxt y) x _ h2 F2)) rfl rfl rfl (fun _ _ => rfl) rfl (by exact cl_v my_64 rfl rfl rfl (Nat.le_of_ble_eq_true rfl) rfl (MH_obj rfl rfl) rfl (by decide) rfl rfl) (by rfl) (Nat.le_of_ble_eq_true rfl) (Nat.le_of_ble_eq_true rfl) rfl (fun v h1 d1 hq => ?_) (fun _ _ _ e => e.elim)
            rcases hq with ⟨hv, ⟨C3, F3, hh⟩, hn⟩
            · subst hv; subst hh; subst hn
              refine w_p (pc1 := 76) rfl rfl ?_
              refine w_p (pc1 := 77) rfl rfl ?_
              refine w_p (pc1 := 78) (st1 := .int 0 :: _) rfl rfl ?_
              refine w_ji (pc1 := 81) (vs := [.ref 121, .int 12, .int 0]) (rest := []) (eR (d := _) F3 hul) rfl rfl rfl (fun _ _ => rfl) rfl (by exact cl_v my_61 rfl rfl rfl (Nat.le_of_ble_eq_true rfl) rfl (MH_obj rfl rfl) rfl (by decide) rfl rfl) (by rfl) (Nat.le_of_ble_eq_true rfl) (Nat.le_of_ble_eq_true rfl) rfl (fun v h1 d1 hq => ?_) (fun _ _ _ e => e.elim)
              rcases hq with ⟨hv, ⟨C4, F4, hh⟩, hn⟩
              · subst hv; subst hh; subst hn
                refine w_iinc (pc1 := 84) (u := nI (k)) (z := nI (k + 1)) (al1 := [(1, .int (nI (k + 1))), (2, .int 12), (0, .ref 121)]) rfl rfl rfl nK_1 rfl rfl ?_
                refine w_p (pc1 := 6) rfl rfl ?_
                exact Wd_up (by have e : (emt x 12 0).2.2.1 = s.2.2.1 := hxx; rw [e]; exact Nat.le_refl _) (jl (emt x 12 0) c i _ (k + 1) (some 12) (fun e => by cases e) h hc F4 hk1)
  · rw [if_neg hop] at h
    cases h
set_option maxRecDepth 100000 in
theorem trm_r (ih : Gr L xs B n m C0 t E f 0 y_64 12) (il : Lr L xs B n m C0 t E f 2 y_63 13 true) : Gr L xs B n m C0 t E (f + 1) 1 y_63 13 := by
  intro s z C h F
  unfold rd at h
  simp only at h
  obtain ⟨y, h1, h2⟩ := bnd_s h
  have hq := (rd_fle _ _ _ _ h1).2.2
  refine w_p (pc1 := 1) rfl rfl ?_
  refine w_ji (pc1 := 4) (vs := [.ref 121]) (rest := []) (ih s y _ h1 F) rfl rfl rfl (fun _ _ => rfl) rfl (by exact cl_v my_64 rfl rfl rfl (Nat.le_of_ble_eq_true rfl) rfl (MH_obj rfl rfl) rfl (by decide) rfl rfl) (by rfl) (Nat.le_of_ble_eq_true rfl) (Nat.le_of_ble_eq_true rfl) rfl (fun v h1 d1 hq => ?_) (fun _ _ _ e => e.elim)
  rcases hq with ⟨hv, ⟨C1, F1, hh⟩, hn⟩
  · subst hv; subst hh; subst hn
    refine w_p (pc1 := 5) (st1 := .int 0 :: _) rfl rfl ?_
    refine w_p (pc1 := 6) (al1 := [(1, .int 0), (0, .ref 121)]) rfl rfl ?_
    exact Wd_up (by rw [hq]; exact Nat.le_refl _) (il y z _ 0 none (fun _ => rfl) h2 F1 (Nat.zero_le _))
set_option maxRecDepth 100000 in
theorem trm_e (ih : Gr L xs B n m C0 t E f 0 y_64 12) (jh : Ge L xs B n m C0 t E f 0 y_64 12) (jl : Le L xs B n m C0 t E f 2 y_63 13 true) : Ge L xs B n m C0 t E (f + 1) 1 y_63 13 := by
  intro s c i C h hc F
  unfold rd at h
  simp only at h
  rcases bnd_e h with h1 | ⟨y, h1, h2⟩
  · skip
    refine w_p (pc1 := 1) rfl rfl ?_
    refine w_ji (pc1 := 4) (vs := [.ref 121]) (rest := []) (jh s c i _ h1 hc F) rfl rfl rfl (fun _ _ => rfl) rfl (by exact cl_v my_64 rfl rfl rfl (Nat.le_of_ble_eq_true rfl) rfl (MH_obj rfl rfl) rfl (by decide) rfl rfl) (by rfl) (Nat.le_of_ble_eq_true rfl) (Nat.le_of_ble_eq_true rfl) rfl (fun v h1 d1 hq => ?_) (fun a h1 d1 hq => ?_)
    · exact hq.elim
    · rcases hq with ⟨C9, f9, S9, ha, hh, hn⟩
      · subst ha; subst hh; subst hn
        refine Or.inl ⟨ch_new (by decide) rfl, ?_⟩
        exact ⟨C9, f9, S9, rfl, rfl, rfl⟩
  · have hq := (rd_fle _ _ _ _ h1).2.2
    refine w_p (pc1 := 1) rfl rfl ?_
    refine w_ji (pc1 := 4) (vs := [.ref 121]) (rest := []) (ih s y _ h1 F) rfl rfl rfl (fun _ _ => rfl) rfl (by exact cl_v my_64 rfl rfl rfl (Nat.le_of_ble_eq_true rfl) rfl (MH_obj rfl rfl) rfl (by decide) rfl rfl) (by rfl) (Nat.le_of_ble_eq_true rfl) (Nat.le_of_ble_eq_true rfl) rfl (fun v h1 d1 hq => ?_) (fun _ _ _ e => e.elim)
    rcases hq with ⟨hv, ⟨C1, F1, hh⟩, hn⟩
    · subst hv; subst hh; subst hn
      refine w_p (pc1 := 5) (st1 := .int 0 :: _) rfl rfl ?_
      refine w_p (pc1 := 6) (al1 := [(1, .int 0), (0, .ref 121)]) rfl rfl ?_
      exact Wd_up (by rw [hq]; exact Nat.le_refl _) (jl y c i _ 0 none (fun _ => rfl) h2 hc F1 (Nat.zero_le _))
set_option maxRecDepth 100000 in
theorem smm_lr (hE : E.1 = kd B n) (ih : Gr L xs B n m C0 t E f 1 y_63 13) (il : Lr L xs B n m C0 t E f 4 y_62 14 true) : Lr L xs B n m C0 t E (f + 1) 4 y_62 14 true := by
  intro s z C k u hu h F hk0
  unfold rd at h
  simp only [hE] at h
  by_cases hop : kd B n s.1 = 56 ∨ kd B n s.1 = 57
  · rw [if_pos hop] at h
    obtain ⟨y, h1, h⟩ := bnd_s h
    obtain ⟨x, h2, h⟩ := bnd_s h
    have hx := spd_s h1
    have hxq : (nxt y).2.2.1 = s.2.2.1 := hx.2.2
    have hnk : kd B n s.1 ≠ 1 ∧ kd B n s.1 ≠ 2 := by omega
    have hky : kd B n y.1 ≠ 1 ∧ kd B n y.1 ≠ 2 := by rw [hx.1]; exact hnk
    have h6 := tkS_600 F.1
    have hlt := tkS_lt F.1 hnk.1 hnk.2
    have hf := rd_fle _ _ _ _ h2
    have ho := fle_o (a := 0) (b := 0) h1 hf
    have hl := F.2.1
    have hul : x.2.1.length + 1 ≤ x.1 := by have := ho.2.1; omega
    have hxx : x.2.2.1 = s.2.2.1 := by rw [hf.2.2]; exact hxq
    have hk1 : k + 1 ≤ x.1 := by have := ho.2.2; omega
    cases u with
    | none =>
      rcases hop with hk | hk
      · skip
        rw [if_pos hk] at h
        refine w_p (pc1 := 7) rfl rfl ?_
        refine w_p (pc1 := 10) (st1 := .int 600 :: _) rfl rfl ?_
        refine w_f (a := 87) (b := 13) (bN_ge_f (a := k) (b := 600) (by omega) (by omega) (by omega)) rfl rfl ?_
        refine w_p (pc1 := 14) rfl rfl ?_
        refine w_m0 (pc1 := 17) rfl rfl (h_gC rfl rfl rfl rfl) rfl ?_
        refine w_m0 (pc1 := 20) (st1 := .ref (kd B n s.1) :: _) rfl rfl (h_gRs (j := 6) rfl rfl rfl rfl rfl (tkS_tok F.1)) rfl ?_
        refine w_m0 (pc1 := 23) (st1 := .ref 56 :: _) rfl rfl rfl rfl ?_
        refine w_ae_y (A := 39) (ok_kd) (by decide) (hk) rfl rfl ?_
        refine w_p (pc1 := 40) rfl rfl ?_
        refine w_m0 (pc1 := 43) rfl rfl (h_gC rfl rfl rfl rfl) rfl ?_
        refine w_m0 (pc1 := 46) (st1 := .ref (kd B n s.1) :: _) rfl rfl (h_gRs (j := 6) rfl rfl rfl rfl rfl (tkS_tok F.1)) rfl ?_
        refine w_m0 (pc1 := 49) (st1 := .ref 56 :: _) rfl rfl rfl rfl ?_
        refine w_an_y (A := 57) (Bn := 52) (ok_kd) (by decide) (hk) rfl rfl rfl ?_
        refine w_p (pc1 := 54) (st1 := .int 9 :: _) rfl rfl ?_
        refine w_p (pc1 := 59) rfl rfl ?_
        refine w_p (pc1 := 60) (al1 := [(2, .int 9), (1, .int (nI (k))), (0, .ref 121)]) rfl rfl ?_
        refine w_p (pc1 := 61) rfl rfl ?_
        refine w_ji (pc1 := 64) (vs := [.ref 121]) (rest := []) (rR (d := _) F h1) rfl rfl rfl (fun _ _ => rfl) rfl (by exact cl_v my_60 rfl rfl rfl (Nat.le_of_ble_eq_true rfl) rfl (MH_obj rfl rfl) rfl (by decide) rfl rfl) (by rfl) (Nat.le_of_ble_eq_true rfl) (Nat.le_of_ble_eq_true rfl) rfl (fun v h1 d1 hq => ?_) (fun _ _ _ e => e.elim)
        rcases hq with ⟨hv, ⟨C1, F1, hh⟩, hn⟩
        · subst hv; subst hh; subst hn
          refine w_p (pc1 := 65) rfl rfl ?_
          refine w_m0 (pc1 := 68) rfl rfl (h_gC rfl rfl rfl rfl) rfl ?_
          refine w_ji (pc1 := 71) (vs := [.ref 101]) (rest := []) (nR (d := _) F1 hky) rfl rfl rfl (fun _ _ => rfl) rfl (by exact cl_v my_21 rfl rfl rfl (Nat.le_of_ble_eq_true rfl) rfl (MH_obj rfl rfl) rfl (by decide) rfl rfl) (by rfl) (Nat.le_of_ble_eq_true rfl) (Nat.le_of_ble_eq_true rfl) rfl (fun v h1 d1 hq => ?_) (fun _ _ _ e => e.elim)
          rcases hq with ⟨hv, ⟨C2, F2, hh⟩, hn⟩
          · subst hv; subst hh; subst hn
            refine w_p (pc1 := 72) rfl rfl ?_
            refine w_ji (pc1 := 75) (vs := [.ref 121]) (rest := []) (Wd_up (by rw [hxq]; omega) (ih (nxt y) x _ h2 F2)) rfl rfl rfl (fun _ _ => rfl) rfl (by exact cl_v my_63 rfl rfl rfl (Nat.le_of_ble_eq_true rfl) rfl (MH_obj rfl rfl) rfl (by decide) rfl rfl) (by rfl) (Nat.le_of_ble_eq_true rfl) (Nat.le_of_ble_eq_true rfl) rfl (fun v h1 d1 hq => ?_) (fun _ _ _ e => e.elim)
            rcases hq with ⟨hv, ⟨C3, F3, hh⟩, hn⟩
            · subst hv; subst hh; subst hn
              refine w_p (pc1 := 76) rfl rfl ?_
              refine w_p (pc1 := 77) rfl rfl ?_
              refine w_p (pc1 := 78) (st1 := .int 0 :: _) rfl rfl ?_
              refine w_ji (pc1 := 81) (vs := [.ref 121, .int 9, .int 0]) (rest := []) (eR (d := _) F3 hul) rfl rfl rfl (fun _ _ => rfl) rfl (by exact cl_v my_61 rfl rfl rfl (Nat.le_of_ble_eq_true rfl) rfl (MH_obj rfl rfl) rfl (by decide) rfl rfl) (by rfl) (Nat.le_of_ble_eq_true rfl) (Nat.le_of_ble_eq_true rfl) rfl (fun v h1 d1 hq => ?_) (fun _ _ _ e => e.elim)
              rcases hq with ⟨hv, ⟨C4, F4, hh⟩, hn⟩
              · subst hv; subst hh; subst hn
                refine w_iinc (pc1 := 84) (u := nI (k)) (z := nI (k + 1)) (al1 := [(1, .int (nI (k + 1))), (2, .int 9), (0, .ref 121)]) rfl rfl rfl nK_1 rfl rfl ?_
                refine w_p (pc1 := 6) rfl rfl ?_
                exact Wd_up (by have e : (emt x 9 0).2.2.1 = s.2.2.1 := hxx; rw [e]; exact Nat.le_refl _) (il (emt x 9 0) z _ (k + 1) (some 9) (fun e => by cases e) h F4 hk1)
      · skip
        rw [if_neg (by rw [hk]; decide)] at h
        refine w_p (pc1 := 7) rfl rfl ?_
        refine w_p (pc1 := 10) (st1 := .int 600 :: _) rfl rfl ?_
        refine w_f (a := 87) (b := 13) (bN_ge_f (a := k) (b := 600) (by omega) (by omega) (by omega)) rfl rfl ?_
        refine w_p (pc1 := 14) rfl rfl ?_
        refine w_m0 (pc1 := 17) rfl rfl (h_gC rfl rfl rfl rfl) rfl ?_
        refine w_m0 (pc1 := 20) (st1 := .ref (kd B n s.1) :: _) rfl rfl (h_gRs (j := 6) rfl rfl rfl rfl rfl (tkS_tok F.1)) rfl ?_
        refine w_m0 (pc1 := 23) (st1 := .ref 56 :: _) rfl rfl rfl rfl ?_
        refine w_ae_n (A := 39) (Bn := 26) (ok_kd) (by decide) (by rw [hk]; decide) rfl rfl rfl ?_
        refine w_p (pc1 := 27) rfl rfl ?_
        refine w_m0 (pc1 := 30) rfl rfl (h_gC rfl rfl rfl rfl) rfl ?_
        refine w_m0 (pc1 := 33) (st1 := .ref (kd B n s.1) :: _) rfl rfl (h_gRs (j := 6) rfl rfl rfl rfl rfl (tkS_tok F.1)) rfl ?_
        refine w_m0 (pc1 := 36) (st1 := .ref 57 :: _) rfl rfl rfl rfl ?_
        refine w_an_y (A := 87) (Bn := 39) (ok_kd) (by decide) (hk) rfl rfl rfl ?_
        refine w_p (pc1 := 40) rfl rfl ?_
        refine w_m0 (pc1 := 43) rfl rfl (h_gC rfl rfl rfl rfl) rfl ?_
        refine w_m0 (pc1 := 46) (st1 := .ref (kd B n s.1) :: _) rfl rfl (h_gRs (j := 6) rfl rfl rfl rfl rfl (tkS_tok F.1)) rfl ?_
        refine w_m0 (pc1 := 49) (st1 := .ref 56 :: _) rfl rfl rfl rfl ?_
        refine w_an_n (A := 57) (ok_kd) (by decide) (by rw [hk]; decide) rfl rfl ?_
        refine w_p (pc1 := 59) (st1 := .int 10 :: _) rfl rfl ?_
        refine w_p (pc1 := 60) (al1 := [(2, .int 10), (1, .int (nI (k))), (0, .ref 121)]) rfl rfl ?_
        refine w_p (pc1 := 61) rfl rfl ?_
        refine w_ji (pc1 := 64) (vs := [.ref 121]) (rest := []) (rR (d := _) F h1) rfl rfl rfl (fun _ _ => rfl) rfl (by exact cl_v my_60 rfl rfl rfl (Nat.le_of_ble_eq_true rfl) rfl (MH_obj rfl rfl) rfl (by decide) rfl rfl) (by rfl) (Nat.le_of_ble_eq_true rfl) (Nat.le_of_ble_eq_true rfl) rfl (fun v h1 d1 hq => ?_) (fun _ _ _ e => e.elim)
        rcases hq with ⟨hv, ⟨C1, F1, hh⟩, hn⟩
        · subst hv; subst hh; subst hn
          refine w_p (pc1 := 65) rfl rfl ?_
          refine w_m0 (pc1 := 68) rfl rfl (h_gC rfl rfl rfl rfl) rfl ?_
          refine w_ji (pc1 := 71) (vs := [.ref 101]) (rest := []) (nR (d := _) F1 hky) rfl rfl rfl (fun _ _ => rfl) rfl (by exact cl_v my_21 rfl rfl rfl (Nat.le_of_ble_eq_true rfl) rfl (MH_obj rfl rfl) rfl (by decide) rfl rfl) (by rfl) (Nat.le_of_ble_eq_true rfl) (Nat.le_of_ble_eq_true rfl) rfl (fun v h1 d1 hq => ?_) (fun _ _ _ e => e.elim)
          rcases hq with ⟨hv, ⟨C2, F2, hh⟩, hn⟩
          · subst hv; subst hh; subst hn
            refine w_p (pc1 := 72) rfl rfl ?_
            refine w_ji (pc1 := 75) (vs := [.ref 121]) (rest := []) (Wd_up (by rw [hxq]; omega) (ih (nxt y) x _ h2 F2)) rfl rfl rfl (fun _ _ => rfl) rfl (by exact cl_v my_63 rfl rfl rfl (Nat.le_of_ble_eq_true rfl) rfl (MH_obj rfl rfl) rfl (by decide) rfl rfl) (by rfl) (Nat.le_of_ble_eq_true rfl) (Nat.le_of_ble_eq_true rfl) rfl (fun v h1 d1 hq => ?_) (fun _ _ _ e => e.elim)
            rcases hq with ⟨hv, ⟨C3, F3, hh⟩, hn⟩
            · subst hv; subst hh; subst hn
              refine w_p (pc1 := 76) rfl rfl ?_
              refine w_p (pc1 := 77) rfl rfl ?_
              refine w_p (pc1 := 78) (st1 := .int 0 :: _) rfl rfl ?_
              refine w_ji (pc1 := 81) (vs := [.ref 121, .int 10, .int 0]) (rest := []) (eR (d := _) F3 hul) rfl rfl rfl (fun _ _ => rfl) rfl (by exact cl_v my_61 rfl rfl rfl (Nat.le_of_ble_eq_true rfl) rfl (MH_obj rfl rfl) rfl (by decide) rfl rfl) (by rfl) (Nat.le_of_ble_eq_true rfl) (Nat.le_of_ble_eq_true rfl) rfl (fun v h1 d1 hq => ?_) (fun _ _ _ e => e.elim)
              rcases hq with ⟨hv, ⟨C4, F4, hh⟩, hn⟩
              · subst hv; subst hh; subst hn
                refine w_iinc (pc1 := 84) (u := nI (k)) (z := nI (k + 1)) (al1 := [(1, .int (nI (k + 1))), (2, .int 10), (0, .ref 121)]) rfl rfl rfl nK_1 rfl rfl ?_
                refine w_p (pc1 := 6) rfl rfl ?_
                exact Wd_up (by have e : (emt x 10 0).2.2.1 = s.2.2.1 := hxx; rw [e]; exact Nat.le_refl _) (il (emt x 10 0) z _ (k + 1) (some 10) (fun e => by cases e) h F4 hk1)
    | some x2 =>
      rcases hop with hk | hk
      · skip
        rw [if_pos hk] at h
        refine w_p (pc1 := 7) rfl rfl ?_
        refine w_p (pc1 := 10) (st1 := .int 600 :: _) rfl rfl ?_
        refine w_f (a := 87) (b := 13) (bN_ge_f (a := k) (b := 600) (by omega) (by omega) (by omega)) rfl rfl ?_
        refine w_p (pc1 := 14) rfl rfl ?_
        refine w_m0 (pc1 := 17) rfl rfl (h_gC rfl rfl rfl rfl) rfl ?_
        refine w_m0 (pc1 := 20) (st1 := .ref (kd B n s.1) :: _) rfl rfl (h_gRs (j := 6) rfl rfl rfl rfl rfl (tkS_tok F.1)) rfl ?_
        refine w_m0 (pc1 := 23) (st1 := .ref 56 :: _) rfl rfl rfl rfl ?_
        refine w_ae_y (A := 39) (ok_kd) (by decide) (hk) rfl rfl ?_
        refine w_p (pc1 := 40) rfl rfl ?_
        refine w_m0 (pc1 := 43) rfl rfl (h_gC rfl rfl rfl rfl) rfl ?_
        refine w_m0 (pc1 := 46) (st1 := .ref (kd B n s.1) :: _) rfl rfl (h_gRs (j := 6) rfl rfl rfl rfl rfl (tkS_tok F.1)) rfl ?_
        refine w_m0 (pc1 := 49) (st1 := .ref 56 :: _) rfl rfl rfl rfl ?_
        refine w_an_y (A := 57) (Bn := 52) (ok_kd) (by decide) (hk) rfl rfl rfl ?_
        refine w_p (pc1 := 54) (st1 := .int 9 :: _) rfl rfl ?_
        refine w_p (pc1 := 59) rfl rfl ?_
        refine w_p (pc1 := 60) (al1 := [(2, .int 9), (1, .int (nI (k))), (0, .ref 121)]) rfl rfl ?_
        refine w_p (pc1 := 61) rfl rfl ?_
        refine w_ji (pc1 := 64) (vs := [.ref 121]) (rest := []) (rR (d := _) F h1) rfl rfl rfl (fun _ _ => rfl) rfl (by exact cl_v my_60 rfl rfl rfl (Nat.le_of_ble_eq_true rfl) rfl (MH_obj rfl rfl) rfl (by decide) rfl rfl) (by rfl) (Nat.le_of_ble_eq_true rfl) (Nat.le_of_ble_eq_true rfl) rfl (fun v h1 d1 hq => ?_) (fun _ _ _ e => e.elim)
        rcases hq with ⟨hv, ⟨C1, F1, hh⟩, hn⟩
        · subst hv; subst hh; subst hn
          refine w_p (pc1 := 65) rfl rfl ?_
          refine w_m0 (pc1 := 68) rfl rfl (h_gC rfl rfl rfl rfl) rfl ?_
          refine w_ji (pc1 := 71) (vs := [.ref 101]) (rest := []) (nR (d := _) F1 hky) rfl rfl rfl (fun _ _ => rfl) rfl (by exact cl_v my_21 rfl rfl rfl (Nat.le_of_ble_eq_true rfl) rfl (MH_obj rfl rfl) rfl (by decide) rfl rfl) (by rfl) (Nat.le_of_ble_eq_true rfl) (Nat.le_of_ble_eq_true rfl) rfl (fun v h1 d1 hq => ?_) (fun _ _ _ e => e.elim)
          rcases hq with ⟨hv, ⟨C2, F2, hh⟩, hn⟩
          · subst hv; subst hh; subst hn
            refine w_p (pc1 := 72) rfl rfl ?_
            refine w_ji (pc1 := 75) (vs := [.ref 121]) (rest := []) (Wd_up (by rw [hxq]; omega) (ih (nxt y) x _ h2 F2)) rfl rfl rfl (fun _ _ => rfl) rfl (by exact cl_v my_63 rfl rfl rfl (Nat.le_of_ble_eq_true rfl) rfl (MH_obj rfl rfl) rfl (by decide) rfl rfl) (by rfl) (Nat.le_of_ble_eq_true rfl) (Nat.le_of_ble_eq_true rfl) rfl (fun v h1 d1 hq => ?_) (fun _ _ _ e => e.elim)
            rcases hq with ⟨hv, ⟨C3, F3, hh⟩, hn⟩
            · subst hv; subst hh; subst hn
              refine w_p (pc1 := 76) rfl rfl ?_
              refine w_p (pc1 := 77) rfl rfl ?_
              refine w_p (pc1 := 78) (st1 := .int 0 :: _) rfl rfl ?_
              refine w_ji (pc1 := 81) (vs := [.ref 121, .int 9, .int 0]) (rest := []) (eR (d := _) F3 hul) rfl rfl rfl (fun _ _ => rfl) rfl (by exact cl_v my_61 rfl rfl rfl (Nat.le_of_ble_eq_true rfl) rfl (MH_obj rfl rfl) rfl (by decide) rfl rfl) (by rfl) (Nat.le_of_ble_eq_true rfl) (Nat.le_of_ble_eq_true rfl) rfl (fun v h1 d1 hq => ?_) (fun _ _ _ e => e.elim)
              rcases hq with ⟨hv, ⟨C4, F4, hh⟩, hn⟩
              · subst hv; subst hh; subst hn
                refine w_iinc (pc1 := 84) (u := nI (k)) (z := nI (k + 1)) (al1 := [(1, .int (nI (k + 1))), (2, .int 9), (0, .ref 121)]) rfl rfl rfl nK_1 rfl rfl ?_
                refine w_p (pc1 := 6) rfl rfl ?_
                exact Wd_up (by have e : (emt x 9 0).2.2.1 = s.2.2.1 := hxx; rw [e]; exact Nat.le_refl _) (il (emt x 9 0) z _ (k + 1) (some 9) (fun e => by cases e) h F4 hk1)
      · skip
        rw [if_neg (by rw [hk]; decide)] at h
        refine w_p (pc1 := 7) rfl rfl ?_
        refine w_p (pc1 := 10) (st1 := .int 600 :: _) rfl rfl ?_
        refine w_f (a := 87) (b := 13) (bN_ge_f (a := k) (b := 600) (by omega) (by omega) (by omega)) rfl rfl ?_
        refine w_p (pc1 := 14) rfl rfl ?_
        refine w_m0 (pc1 := 17) rfl rfl (h_gC rfl rfl rfl rfl) rfl ?_
        refine w_m0 (pc1 := 20) (st1 := .ref (kd B n s.1) :: _) rfl rfl (h_gRs (j := 6) rfl rfl rfl rfl rfl (tkS_tok F.1)) rfl ?_
        refine w_m0 (pc1 := 23) (st1 := .ref 56 :: _) rfl rfl rfl rfl ?_
        refine w_ae_n (A := 39) (Bn := 26) (ok_kd) (by decide) (by rw [hk]; decide) rfl rfl rfl ?_
        refine w_p (pc1 := 27) rfl rfl ?_
        refine w_m0 (pc1 := 30) rfl rfl (h_gC rfl rfl rfl rfl) rfl ?_
        refine w_m0 (pc1 := 33) (st1 := .ref (kd B n s.1) :: _) rfl rfl (h_gRs (j := 6) rfl rfl rfl rfl rfl (tkS_tok F.1)) rfl ?_
        refine w_m0 (pc1 := 36) (st1 := .ref 57 :: _) rfl rfl rfl rfl ?_
        refine w_an_y (A := 87) (Bn := 39) (ok_kd) (by decide) (hk) rfl rfl rfl ?_
        refine w_p (pc1 := 40) rfl rfl ?_
        refine w_m0 (pc1 := 43) rfl rfl (h_gC rfl rfl rfl rfl) rfl ?_
        refine w_m0 (pc1 := 46) (st1 := .ref (kd B n s.1) :: _) rfl rfl (h_gRs (j := 6) rfl rfl rfl rfl rfl (tkS_tok F.1)) rfl ?_
        refine w_m0 (pc1 := 49) (st1 := .ref 56 :: _) rfl rfl rfl rfl ?_
        refine w_an_n (A := 57) (ok_kd) (by decide) (by rw [hk]; decide) rfl rfl ?_
        refine w_p (pc1 := 59) (st1 := .int 10 :: _) rfl rfl ?_
        refine w_p (pc1 := 60) (al1 := [(2, .int 10), (1, .int (nI (k))), (0, .ref 121)]) rfl rfl ?_
        refine w_p (pc1 := 61) rfl rfl ?_
        refine w_ji (pc1 := 64) (vs := [.ref 121]) (rest := []) (rR (d := _) F h1) rfl rfl rfl (fun _ _ => rfl) rfl (by exact cl_v my_60 rfl rfl rfl (Nat.le_of_ble_eq_true rfl) rfl (MH_obj rfl rfl) rfl (by decide) rfl rfl) (by rfl) (Nat.le_of_ble_eq_true rfl) (Nat.le_of_ble_eq_true rfl) rfl (fun v h1 d1 hq => ?_) (fun _ _ _ e => e.elim)
        rcases hq with ⟨hv, ⟨C1, F1, hh⟩, hn⟩
        · subst hv; subst hh; subst hn
          refine w_p (pc1 := 65) rfl rfl ?_
          refine w_m0 (pc1 := 68) rfl rfl (h_gC rfl rfl rfl rfl) rfl ?_
          refine w_ji (pc1 := 71) (vs := [.ref 101]) (rest := []) (nR (d := _) F1 hky) rfl rfl rfl (fun _ _ => rfl) rfl (by exact cl_v my_21 rfl rfl rfl (Nat.le_of_ble_eq_true rfl) rfl (MH_obj rfl rfl) rfl (by decide) rfl rfl) (by rfl) (Nat.le_of_ble_eq_true rfl) (Nat.le_of_ble_eq_true rfl) rfl (fun v h1 d1 hq => ?_) (fun _ _ _ e => e.elim)
          rcases hq with ⟨hv, ⟨C2, F2, hh⟩, hn⟩
          · subst hv; subst hh; subst hn
            refine w_p (pc1 := 72) rfl rfl ?_
            refine w_ji (pc1 := 75) (vs := [.ref 121]) (rest := []) (Wd_up (by rw [hxq]; omega) (ih (nxt y) x _ h2 F2)) rfl rfl rfl (fun _ _ => rfl) rfl (by exact cl_v my_63 rfl rfl rfl (Nat.le_of_ble_eq_true rfl) rfl (MH_obj rfl rfl) rfl (by decide) rfl rfl) (by rfl) (Nat.le_of_ble_eq_true rfl) (Nat.le_of_ble_eq_true rfl) rfl (fun v h1 d1 hq => ?_) (fun _ _ _ e => e.elim)
            rcases hq with ⟨hv, ⟨C3, F3, hh⟩, hn⟩
            · subst hv; subst hh; subst hn
              refine w_p (pc1 := 76) rfl rfl ?_
              refine w_p (pc1 := 77) rfl rfl ?_
              refine w_p (pc1 := 78) (st1 := .int 0 :: _) rfl rfl ?_
              refine w_ji (pc1 := 81) (vs := [.ref 121, .int 10, .int 0]) (rest := []) (eR (d := _) F3 hul) rfl rfl rfl (fun _ _ => rfl) rfl (by exact cl_v my_61 rfl rfl rfl (Nat.le_of_ble_eq_true rfl) rfl (MH_obj rfl rfl) rfl (by decide) rfl rfl) (by rfl) (Nat.le_of_ble_eq_true rfl) (Nat.le_of_ble_eq_true rfl) rfl (fun v h1 d1 hq => ?_) (fun _ _ _ e => e.elim)
              rcases hq with ⟨hv, ⟨C4, F4, hh⟩, hn⟩
              · subst hv; subst hh; subst hn
                refine w_iinc (pc1 := 84) (u := nI (k)) (z := nI (k + 1)) (al1 := [(1, .int (nI (k + 1))), (2, .int 10), (0, .ref 121)]) rfl rfl rfl nK_1 rfl rfl ?_
                refine w_p (pc1 := 6) rfl rfl ?_
                exact Wd_up (by have e : (emt x 10 0).2.2.1 = s.2.2.1 := hxx; rw [e]; exact Nat.le_refl _) (il (emt x 10 0) z _ (k + 1) (some 10) (fun e => by cases e) h F4 hk1)
  · rw [if_neg hop] at h
    cases h
    have h6 := tkS_600 F.1
    have hm := F.1.2.2.2.1
    cases u with
    | none =>
      by_cases h600 : k < 600
      · skip
        refine w_p (pc1 := 7) rfl rfl ?_
        refine w_p (pc1 := 10) (st1 := .int 600 :: _) rfl rfl ?_
        refine w_f (a := 87) (b := 13) (bN_ge_f (a := k) (b := 600) (by omega) (by omega) (by omega)) rfl rfl ?_
        refine w_p (pc1 := 14) rfl rfl ?_
        refine w_m0 (pc1 := 17) rfl rfl (h_gC rfl rfl rfl rfl) rfl ?_
        refine w_m0 (pc1 := 20) (st1 := .ref (kd B n s.1) :: _) rfl rfl (h_gRs (j := 6) rfl rfl rfl rfl rfl (tkS_tok F.1)) rfl ?_
        refine w_m0 (pc1 := 23) (st1 := .ref 56 :: _) rfl rfl rfl rfl ?_
        refine w_ae_n (A := 39) (Bn := 26) (ok_kd) (by decide) (by omega) rfl rfl rfl ?_
        refine w_p (pc1 := 27) rfl rfl ?_
        refine w_m0 (pc1 := 30) rfl rfl (h_gC rfl rfl rfl rfl) rfl ?_
        refine w_m0 (pc1 := 33) (st1 := .ref (kd B n s.1) :: _) rfl rfl (h_gRs (j := 6) rfl rfl rfl rfl rfl (tkS_tok F.1)) rfl ?_
        refine w_m0 (pc1 := 36) (st1 := .ref 57 :: _) rfl rfl rfl rfl ?_
        refine w_an_n (A := 87) (ok_kd) (by decide) (by omega) rfl rfl ?_
        refine w_r rfl rfl rfl (fun _ _ => rfl) rfl ?_
        exact PF_i F
      · skip
        refine w_p (pc1 := 7) rfl rfl ?_
        refine w_p (pc1 := 10) (st1 := .int 600 :: _) rfl rfl ?_
        refine w_t (a := 87) (b := 13) (bN_ge_t (a := k) (b := 600) (by omega) (by omega) (by omega)) rfl rfl ?_
        refine w_r rfl rfl rfl (fun _ _ => rfl) rfl ?_
        exact PF_i F
    | some x2 =>
      by_cases h600 : k < 600
      · skip
        refine w_p (pc1 := 7) rfl rfl ?_
        refine w_p (pc1 := 10) (st1 := .int 600 :: _) rfl rfl ?_
        refine w_f (a := 87) (b := 13) (bN_ge_f (a := k) (b := 600) (by omega) (by omega) (by omega)) rfl rfl ?_
        refine w_p (pc1 := 14) rfl rfl ?_
        refine w_m0 (pc1 := 17) rfl rfl (h_gC rfl rfl rfl rfl) rfl ?_
        refine w_m0 (pc1 := 20) (st1 := .ref (kd B n s.1) :: _) rfl rfl (h_gRs (j := 6) rfl rfl rfl rfl rfl (tkS_tok F.1)) rfl ?_
        refine w_m0 (pc1 := 23) (st1 := .ref 56 :: _) rfl rfl rfl rfl ?_
        refine w_ae_n (A := 39) (Bn := 26) (ok_kd) (by decide) (by omega) rfl rfl rfl ?_
        refine w_p (pc1 := 27) rfl rfl ?_
        refine w_m0 (pc1 := 30) rfl rfl (h_gC rfl rfl rfl rfl) rfl ?_
        refine w_m0 (pc1 := 33) (st1 := .ref (kd B n s.1) :: _) rfl rfl (h_gRs (j := 6) rfl rfl rfl rfl rfl (tkS_tok F.1)) rfl ?_
        refine w_m0 (pc1 := 36) (st1 := .ref 57 :: _) rfl rfl rfl rfl ?_
        refine w_an_n (A := 87) (ok_kd) (by decide) (by omega) rfl rfl ?_
        refine w_r rfl rfl rfl (fun _ _ => rfl) rfl ?_
        exact PF_i F
      · skip
        refine w_p (pc1 := 7) rfl rfl ?_
        refine w_p (pc1 := 10) (st1 := .int 600 :: _) rfl rfl ?_
        refine w_t (a := 87) (b := 13) (bN_ge_t (a := k) (b := 600) (by omega) (by omega) (by omega)) rfl rfl ?_
        refine w_r rfl rfl rfl (fun _ _ => rfl) rfl ?_
        exact PF_i F
set_option maxRecDepth 100000 in
theorem smm_le (hE : E.1 = kd B n) (ih : Gr L xs B n m C0 t E f 1 y_63 13) (il : Lr L xs B n m C0 t E f 4 y_62 14 true) (jh : Ge L xs B n m C0 t E f 1 y_63 13) (jl : Le L xs B n m C0 t E f 4 y_62 14 true) : Le L xs B n m C0 t E (f + 1) 4 y_62 14 true := by
  intro s c i C k u hu h hc F hk0
  unfold rd at h
  simp only [hE] at h
  by_cases hop : kd B n s.1 = 56 ∨ kd B n s.1 = 57
  · rw [if_pos hop] at h
    have hnk : kd B n s.1 ≠ 1 ∧ kd B n s.1 ≠ 2 := by omega
    have h6 := tkS_600 F.1
    have hlt := tkS_lt F.1 hnk.1 hnk.2
    rcases bnd_e h with h1 | ⟨y, h1, h⟩
    · skip
      cases u with
      | none =>
        rcases hop with hk | hk
        · skip
          refine w_p (pc1 := 7) rfl rfl ?_
          refine w_p (pc1 := 10) (st1 := .int 600 :: _) rfl rfl ?_
          refine w_f (a := 87) (b := 13) (bN_ge_f (a := k) (b := 600) (by omega) (by omega) (by omega)) rfl rfl ?_
          refine w_p (pc1 := 14) rfl rfl ?_
          refine w_m0 (pc1 := 17) rfl rfl (h_gC rfl rfl rfl rfl) rfl ?_
          refine w_m0 (pc1 := 20) (st1 := .ref (kd B n s.1) :: _) rfl rfl (h_gRs (j := 6) rfl rfl rfl rfl rfl (tkS_tok F.1)) rfl ?_
          refine w_m0 (pc1 := 23) (st1 := .ref 56 :: _) rfl rfl rfl rfl ?_
          refine w_ae_y (A := 39) (ok_kd) (by decide) (hk) rfl rfl ?_
          refine w_p (pc1 := 40) rfl rfl ?_
          refine w_m0 (pc1 := 43) rfl rfl (h_gC rfl rfl rfl rfl) rfl ?_
          refine w_m0 (pc1 := 46) (st1 := .ref (kd B n s.1) :: _) rfl rfl (h_gRs (j := 6) rfl rfl rfl rfl rfl (tkS_tok F.1)) rfl ?_
          refine w_m0 (pc1 := 49) (st1 := .ref 56 :: _) rfl rfl rfl rfl ?_
          refine w_an_y (A := 57) (Bn := 52) (ok_kd) (by decide) (hk) rfl rfl rfl ?_
          refine w_p (pc1 := 54) (st1 := .int 9 :: _) rfl rfl ?_
          refine w_p (pc1 := 59) rfl rfl ?_
          refine w_p (pc1 := 60) (al1 := [(2, .int 9), (1, .int (nI (k))), (0, .ref 121)]) rfl rfl ?_
          refine w_p (pc1 := 61) rfl rfl ?_
          refine w_ji (pc1 := 64) (vs := [.ref 121]) (rest := []) (rE (d := _) F h1) rfl rfl rfl (fun _ _ => rfl) rfl (by exact cl_v my_60 rfl rfl rfl (Nat.le_of_ble_eq_true rfl) rfl (MH_obj rfl rfl) rfl (by decide) rfl rfl) (by rfl) (Nat.le_of_ble_eq_true rfl) (Nat.le_of_ble_eq_true rfl) rfl (fun v h1 d1 hq => ?_) (fun a h1 d1 hq => ?_)
          · exact hq.elim
          · rcases hq with ⟨C9, f9, S9, ha, hh, hn⟩
            · subst ha; subst hh; subst hn
              refine Or.inl ⟨ch_new (by decide) rfl, ?_⟩
              exact ⟨C9, f9, S9, rfl, rfl, rfl⟩
        · skip
          refine w_p (pc1 := 7) rfl rfl ?_
          refine w_p (pc1 := 10) (st1 := .int 600 :: _) rfl rfl ?_
          refine w_f (a := 87) (b := 13) (bN_ge_f (a := k) (b := 600) (by omega) (by omega) (by omega)) rfl rfl ?_
          refine w_p (pc1 := 14) rfl rfl ?_
          refine w_m0 (pc1 := 17) rfl rfl (h_gC rfl rfl rfl rfl) rfl ?_
          refine w_m0 (pc1 := 20) (st1 := .ref (kd B n s.1) :: _) rfl rfl (h_gRs (j := 6) rfl rfl rfl rfl rfl (tkS_tok F.1)) rfl ?_
          refine w_m0 (pc1 := 23) (st1 := .ref 56 :: _) rfl rfl rfl rfl ?_
          refine w_ae_n (A := 39) (Bn := 26) (ok_kd) (by decide) (by rw [hk]; decide) rfl rfl rfl ?_
          refine w_p (pc1 := 27) rfl rfl ?_
          refine w_m0 (pc1 := 30) rfl rfl (h_gC rfl rfl rfl rfl) rfl ?_
          refine w_m0 (pc1 := 33) (st1 := .ref (kd B n s.1) :: _) rfl rfl (h_gRs (j := 6) rfl rfl rfl rfl rfl (tkS_tok F.1)) rfl ?_
          refine w_m0 (pc1 := 36) (st1 := .ref 57 :: _) rfl rfl rfl rfl ?_
          refine w_an_y (A := 87) (Bn := 39) (ok_kd) (by decide) (hk) rfl rfl rfl ?_
          refine w_p (pc1 := 40) rfl rfl ?_
          refine w_m0 (pc1 := 43) rfl rfl (h_gC rfl rfl rfl rfl) rfl ?_
          refine w_m0 (pc1 := 46) (st1 := .ref (kd B n s.1) :: _) rfl rfl (h_gRs (j := 6) rfl rfl rfl rfl rfl (tkS_tok F.1)) rfl ?_
          refine w_m0 (pc1 := 49) (st1 := .ref 56 :: _) rfl rfl rfl rfl ?_
          refine w_an_n (A := 57) (ok_kd) (by decide) (by rw [hk]; decide) rfl rfl ?_
          refine w_p (pc1 := 59) (st1 := .int 10 :: _) rfl rfl ?_
          refine w_p (pc1 := 60) (al1 := [(2, .int 10), (1, .int (nI (k))), (0, .ref 121)]) rfl rfl ?_
          refine w_p (pc1 := 61) rfl rfl ?_
          refine w_ji (pc1 := 64) (vs := [.ref 121]) (rest := []) (rE (d := _) F h1) rfl rfl rfl (fun _ _ => rfl) rfl (by exact cl_v my_60 rfl rfl rfl (Nat.le_of_ble_eq_true rfl) rfl (MH_obj rfl rfl) rfl (by decide) rfl rfl) (by rfl) (Nat.le_of_ble_eq_true rfl) (Nat.le_of_ble_eq_true rfl) rfl (fun v h1 d1 hq => ?_) (fun a h1 d1 hq => ?_)
          · exact hq.elim
          · rcases hq with ⟨C9, f9, S9, ha, hh, hn⟩
            · subst ha; subst hh; subst hn
              refine Or.inl ⟨ch_new (by decide) rfl, ?_⟩
              exact ⟨C9, f9, S9, rfl, rfl, rfl⟩
      | some x2 =>
        rcases hop with hk | hk
        · skip
          refine w_p (pc1 := 7) rfl rfl ?_
          refine w_p (pc1 := 10) (st1 := .int 600 :: _) rfl rfl ?_
          refine w_f (a := 87) (b := 13) (bN_ge_f (a := k) (b := 600) (by omega) (by omega) (by omega)) rfl rfl ?_
          refine w_p (pc1 := 14) rfl rfl ?_
          refine w_m0 (pc1 := 17) rfl rfl (h_gC rfl rfl rfl rfl) rfl ?_
          refine w_m0 (pc1 := 20) (st1 := .ref (kd B n s.1) :: _) rfl rfl (h_gRs (j := 6) rfl rfl rfl rfl rfl (tkS_tok F.1)) rfl ?_
          refine w_m0 (pc1 := 23) (st1 := .ref 56 :: _) rfl rfl rfl rfl ?_
          refine w_ae_y (A := 39) (ok_kd) (by decide) (hk) rfl rfl ?_
          refine w_p (pc1 := 40) rfl rfl ?_
          refine w_m0 (pc1 := 43) rfl rfl (h_gC rfl rfl rfl rfl) rfl ?_
          refine w_m0 (pc1 := 46) (st1 := .ref (kd B n s.1) :: _) rfl rfl (h_gRs (j := 6) rfl rfl rfl rfl rfl (tkS_tok F.1)) rfl ?_
          refine w_m0 (pc1 := 49) (st1 := .ref 56 :: _) rfl rfl rfl rfl ?_
          refine w_an_y (A := 57) (Bn := 52) (ok_kd) (by decide) (hk) rfl rfl rfl ?_
          refine w_p (pc1 := 54) (st1 := .int 9 :: _) rfl rfl ?_
          refine w_p (pc1 := 59) rfl rfl ?_
          refine w_p (pc1 := 60) (al1 := [(2, .int 9), (1, .int (nI (k))), (0, .ref 121)]) rfl rfl ?_
          refine w_p (pc1 := 61) rfl rfl ?_
          refine w_ji (pc1 := 64) (vs := [.ref 121]) (rest := []) (rE (d := _) F h1) rfl rfl rfl (fun _ _ => rfl) rfl (by exact cl_v my_60 rfl rfl rfl (Nat.le_of_ble_eq_true rfl) rfl (MH_obj rfl rfl) rfl (by decide) rfl rfl) (by rfl) (Nat.le_of_ble_eq_true rfl) (Nat.le_of_ble_eq_true rfl) rfl (fun v h1 d1 hq => ?_) (fun a h1 d1 hq => ?_)
          · exact hq.elim
          · rcases hq with ⟨C9, f9, S9, ha, hh, hn⟩
            · subst ha; subst hh; subst hn
              refine Or.inl ⟨ch_new (by decide) rfl, ?_⟩
              exact ⟨C9, f9, S9, rfl, rfl, rfl⟩
        · skip
          refine w_p (pc1 := 7) rfl rfl ?_
          refine w_p (pc1 := 10) (st1 := .int 600 :: _) rfl rfl ?_
          refine w_f (a := 87) (b := 13) (bN_ge_f (a := k) (b := 600) (by omega) (by omega) (by omega)) rfl rfl ?_
          refine w_p (pc1 := 14) rfl rfl ?_
          refine w_m0 (pc1 := 17) rfl rfl (h_gC rfl rfl rfl rfl) rfl ?_
          refine w_m0 (pc1 := 20) (st1 := .ref (kd B n s.1) :: _) rfl rfl (h_gRs (j := 6) rfl rfl rfl rfl rfl (tkS_tok F.1)) rfl ?_
          refine w_m0 (pc1 := 23) (st1 := .ref 56 :: _) rfl rfl rfl rfl ?_
          refine w_ae_n (A := 39) (Bn := 26) (ok_kd) (by decide) (by rw [hk]; decide) rfl rfl rfl ?_
          refine w_p (pc1 := 27) rfl rfl ?_
          refine w_m0 (pc1 := 30) rfl rfl (h_gC rfl rfl rfl rfl) rfl ?_
          refine w_m0 (pc1 := 33) (st1 := .ref (kd B n s.1) :: _) rfl rfl (h_gRs (j := 6) rfl rfl rfl rfl rfl (tkS_tok F.1)) rfl ?_
          refine w_m0 (pc1 := 36) (st1 := .ref 57 :: _) rfl rfl rfl rfl ?_
          refine w_an_y (A := 87) (Bn := 39) (ok_kd) (by decide) (hk) rfl rfl rfl ?_
          refine w_p (pc1 := 40) rfl rfl ?_
          refine w_m0 (pc1 := 43) rfl rfl (h_gC rfl rfl rfl rfl) rfl ?_
          refine w_m0 (pc1 := 46) (st1 := .ref (kd B n s.1) :: _) rfl rfl (h_gRs (j := 6) rfl rfl rfl rfl rfl (tkS_tok F.1)) rfl ?_
          refine w_m0 (pc1 := 49) (st1 := .ref 56 :: _) rfl rfl rfl rfl ?_
          refine w_an_n (A := 57) (ok_kd) (by decide) (by rw [hk]; decide) rfl rfl ?_
          refine w_p (pc1 := 59) (st1 := .int 10 :: _) rfl rfl ?_
          refine w_p (pc1 := 60) (al1 := [(2, .int 10), (1, .int (nI (k))), (0, .ref 121)]) rfl rfl ?_
          refine w_p (pc1 := 61) rfl rfl ?_
          refine w_ji (pc1 := 64) (vs := [.ref 121]) (rest := []) (rE (d := _) F h1) rfl rfl rfl (fun _ _ => rfl) rfl (by exact cl_v my_60 rfl rfl rfl (Nat.le_of_ble_eq_true rfl) rfl (MH_obj rfl rfl) rfl (by decide) rfl rfl) (by rfl) (Nat.le_of_ble_eq_true rfl) (Nat.le_of_ble_eq_true rfl) rfl (fun v h1 d1 hq => ?_) (fun a h1 d1 hq => ?_)
          · exact hq.elim
          · rcases hq with ⟨C9, f9, S9, ha, hh, hn⟩
            · subst ha; subst hh; subst hn
              refine Or.inl ⟨ch_new (by decide) rfl, ?_⟩
              exact ⟨C9, f9, S9, rfl, rfl, rfl⟩
    have hx := spd_s h1
    have hxq : (nxt y).2.2.1 = s.2.2.1 := hx.2.2
    have hky : kd B n y.1 ≠ 1 ∧ kd B n y.1 ≠ 2 := by rw [hx.1]; exact hnk
    rcases bnd_e h with h2 | ⟨x, h2, h⟩
    · skip
      cases u with
      | none =>
        rcases hop with hk | hk
        · skip
          refine w_p (pc1 := 7) rfl rfl ?_
          refine w_p (pc1 := 10) (st1 := .int 600 :: _) rfl rfl ?_
          refine w_f (a := 87) (b := 13) (bN_ge_f (a := k) (b := 600) (by omega) (by omega) (by omega)) rfl rfl ?_
          refine w_p (pc1 := 14) rfl rfl ?_
          refine w_m0 (pc1 := 17) rfl rfl (h_gC rfl rfl rfl rfl) rfl ?_
          refine w_m0 (pc1 := 20) (st1 := .ref (kd B n s.1) :: _) rfl rfl (h_gRs (j := 6) rfl rfl rfl rfl rfl (tkS_tok F.1)) rfl ?_
          refine w_m0 (pc1 := 23) (st1 := .ref 56 :: _) rfl rfl rfl rfl ?_
          refine w_ae_y (A := 39) (ok_kd) (by decide) (hk) rfl rfl ?_
          refine w_p (pc1 := 40) rfl rfl ?_
          refine w_m0 (pc1 := 43) rfl rfl (h_gC rfl rfl rfl rfl) rfl ?_
          refine w_m0 (pc1 := 46) (st1 := .ref (kd B n s.1) :: _) rfl rfl (h_gRs (j := 6) rfl rfl rfl rfl rfl (tkS_tok F.1)) rfl ?_
          refine w_m0 (pc1 := 49) (st1 := .ref 56 :: _) rfl rfl rfl rfl ?_
          refine w_an_y (A := 57) (Bn := 52) (ok_kd) (by decide) (hk) rfl rfl rfl ?_
          refine w_p (pc1 := 54) (st1 := .int 9 :: _) rfl rfl ?_
          refine w_p (pc1 := 59) rfl rfl ?_
          refine w_p (pc1 := 60) (al1 := [(2, .int 9), (1, .int (nI (k))), (0, .ref 121)]) rfl rfl ?_
          refine w_p (pc1 := 61) rfl rfl ?_
          refine w_ji (pc1 := 64) (vs := [.ref 121]) (rest := []) (rR (d := _) F h1) rfl rfl rfl (fun _ _ => rfl) rfl (by exact cl_v my_60 rfl rfl rfl (Nat.le_of_ble_eq_true rfl) rfl (MH_obj rfl rfl) rfl (by decide) rfl rfl) (by rfl) (Nat.le_of_ble_eq_true rfl) (Nat.le_of_ble_eq_true rfl) rfl (fun v h1 d1 hq => ?_) (fun _ _ _ e => e.elim)
          rcases hq with ⟨hv, ⟨C1, F1, hh⟩, hn⟩
          · subst hv; subst hh; subst hn
            refine w_p (pc1 := 65) rfl rfl ?_
            refine w_m0 (pc1 := 68) rfl rfl (h_gC rfl rfl rfl rfl) rfl ?_
            refine w_ji (pc1 := 71) (vs := [.ref 101]) (rest := []) (nR (d := _) F1 hky) rfl rfl rfl (fun _ _ => rfl) rfl (by exact cl_v my_21 rfl rfl rfl (Nat.le_of_ble_eq_true rfl) rfl (MH_obj rfl rfl) rfl (by decide) rfl rfl) (by rfl) (Nat.le_of_ble_eq_true rfl) (Nat.le_of_ble_eq_true rfl) rfl (fun v h1 d1 hq => ?_) (fun _ _ _ e => e.elim)
            rcases hq with ⟨hv, ⟨C2, F2, hh⟩, hn⟩
            · subst hv; subst hh; subst hn
              refine w_p (pc1 := 72) rfl rfl ?_
              refine w_ji (pc1 := 75) (vs := [.ref 121]) (rest := []) (Wd_up (by rw [hxq]; omega) (jh (nxt y) c i _ h2 hc F2)) rfl rfl rfl (fun _ _ => rfl) rfl (by exact cl_v my_63 rfl rfl rfl (Nat.le_of_ble_eq_true rfl) rfl (MH_obj rfl rfl) rfl (by decide) rfl rfl) (by rfl) (Nat.le_of_ble_eq_true rfl) (Nat.le_of_ble_eq_true rfl) rfl (fun v h1 d1 hq => ?_) (fun a h1 d1 hq => ?_)
              · exact hq.elim
              · rcases hq with ⟨C9, f9, S9, ha, hh, hn⟩
                · subst ha; subst hh; subst hn
                  refine Or.inl ⟨ch_new (by decide) rfl, ?_⟩
                  exact ⟨C9, f9, S9, rfl, rfl, rfl⟩
        · skip
          refine w_p (pc1 := 7) rfl rfl ?_
          refine w_p (pc1 := 10) (st1 := .int 600 :: _) rfl rfl ?_
          refine w_f (a := 87) (b := 13) (bN_ge_f (a := k) (b := 600) (by omega) (by omega) (by omega)) rfl rfl ?_
          refine w_p (pc1 := 14) rfl rfl ?_
          refine w_m0 (pc1 := 17) rfl rfl (h_gC rfl rfl rfl rfl) rfl ?_
          refine w_m0 (pc1 := 20) (st1 := .ref (kd B n s.1) :: _) rfl rfl (h_gRs (j := 6) rfl rfl rfl rfl rfl (tkS_tok F.1)) rfl ?_
          refine w_m0 (pc1 := 23) (st1 := .ref 56 :: _) rfl rfl rfl rfl ?_
          refine w_ae_n (A := 39) (Bn := 26) (ok_kd) (by decide) (by rw [hk]; decide) rfl rfl rfl ?_
          refine w_p (pc1 := 27) rfl rfl ?_
          refine w_m0 (pc1 := 30) rfl rfl (h_gC rfl rfl rfl rfl) rfl ?_
          refine w_m0 (pc1 := 33) (st1 := .ref (kd B n s.1) :: _) rfl rfl (h_gRs (j := 6) rfl rfl rfl rfl rfl (tkS_tok F.1)) rfl ?_
          refine w_m0 (pc1 := 36) (st1 := .ref 57 :: _) rfl rfl rfl rfl ?_
          refine w_an_y (A := 87) (Bn := 39) (ok_kd) (by decide) (hk) rfl rfl rfl ?_
          refine w_p (pc1 := 40) rfl rfl ?_
          refine w_m0 (pc1 := 43) rfl rfl (h_gC rfl rfl rfl rfl) rfl ?_
          refine w_m0 (pc1 := 46) (st1 := .ref (kd B n s.1) :: _) rfl rfl (h_gRs (j := 6) rfl rfl rfl rfl rfl (tkS_tok F.1)) rfl ?_
          refine w_m0 (pc1 := 49) (st1 := .ref 56 :: _) rfl rfl rfl rfl ?_
          refine w_an_n (A := 57) (ok_kd) (by decide) (by rw [hk]; decide) rfl rfl ?_
          refine w_p (pc1 := 59) (st1 := .int 10 :: _) rfl rfl ?_
          refine w_p (pc1 := 60) (al1 := [(2, .int 10), (1, .int (nI (k))), (0, .ref 121)]) rfl rfl ?_
          refine w_p (pc1 := 61) rfl rfl ?_
          refine w_ji (pc1 := 64) (vs := [.ref 121]) (rest := []) (rR (d := _) F h1) rfl rfl rfl (fun _ _ => rfl) rfl (by exact cl_v my_60 rfl rfl rfl (Nat.le_of_ble_eq_true rfl) rfl (MH_obj rfl rfl) rfl (by decide) rfl rfl) (by rfl) (Nat.le_of_ble_eq_true rfl) (Nat.le_of_ble_eq_true rfl) rfl (fun v h1 d1 hq => ?_) (fun _ _ _ e => e.elim)
          rcases hq with ⟨hv, ⟨C1, F1, hh⟩, hn⟩
          · subst hv; subst hh; subst hn
            refine w_p (pc1 := 65) rfl rfl ?_
            refine w_m0 (pc1 := 68) rfl rfl (h_gC rfl rfl rfl rfl) rfl ?_
            refine w_ji (pc1 := 71) (vs := [.ref 101]) (rest := []) (nR (d := _) F1 hky) rfl rfl rfl (fun _ _ => rfl) rfl (by exact cl_v my_21 rfl rfl rfl (Nat.le_of_ble_eq_true rfl) rfl (MH_obj rfl rfl) rfl (by decide) rfl rfl) (by rfl) (Nat.le_of_ble_eq_true rfl) (Nat.le_of_ble_eq_true rfl) rfl (fun v h1 d1 hq => ?_) (fun _ _ _ e => e.elim)
            rcases hq with ⟨hv, ⟨C2, F2, hh⟩, hn⟩
            · subst hv; subst hh; subst hn
              refine w_p (pc1 := 72) rfl rfl ?_
              refine w_ji (pc1 := 75) (vs := [.ref 121]) (rest := []) (Wd_up (by rw [hxq]; omega) (jh (nxt y) c i _ h2 hc F2)) rfl rfl rfl (fun _ _ => rfl) rfl (by exact cl_v my_63 rfl rfl rfl (Nat.le_of_ble_eq_true rfl) rfl (MH_obj rfl rfl) rfl (by decide) rfl rfl) (by rfl) (Nat.le_of_ble_eq_true rfl) (Nat.le_of_ble_eq_true rfl) rfl (fun v h1 d1 hq => ?_) (fun a h1 d1 hq => ?_)
              · exact hq.elim
              · rcases hq with ⟨C9, f9, S9, ha, hh, hn⟩
                · subst ha; subst hh; subst hn
                  refine Or.inl ⟨ch_new (by decide) rfl, ?_⟩
                  exact ⟨C9, f9, S9, rfl, rfl, rfl⟩
      | some x2 =>
        rcases hop with hk | hk
        · skip
          refine w_p (pc1 := 7) rfl rfl ?_
          refine w_p (pc1 := 10) (st1 := .int 600 :: _) rfl rfl ?_
          refine w_f (a := 87) (b := 13) (bN_ge_f (a := k) (b := 600) (by omega) (by omega) (by omega)) rfl rfl ?_
          refine w_p (pc1 := 14) rfl rfl ?_
          refine w_m0 (pc1 := 17) rfl rfl (h_gC rfl rfl rfl rfl) rfl ?_
          refine w_m0 (pc1 := 20) (st1 := .ref (kd B n s.1) :: _) rfl rfl (h_gRs (j := 6) rfl rfl rfl rfl rfl (tkS_tok F.1)) rfl ?_
          refine w_m0 (pc1 := 23) (st1 := .ref 56 :: _) rfl rfl rfl rfl ?_
          refine w_ae_y (A := 39) (ok_kd) (by decide) (hk) rfl rfl ?_
          refine w_p (pc1 := 40) rfl rfl ?_
          refine w_m0 (pc1 := 43) rfl rfl (h_gC rfl rfl rfl rfl) rfl ?_
          refine w_m0 (pc1 := 46) (st1 := .ref (kd B n s.1) :: _) rfl rfl (h_gRs (j := 6) rfl rfl rfl rfl rfl (tkS_tok F.1)) rfl ?_
          refine w_m0 (pc1 := 49) (st1 := .ref 56 :: _) rfl rfl rfl rfl ?_
          refine w_an_y (A := 57) (Bn := 52) (ok_kd) (by decide) (hk) rfl rfl rfl ?_
          refine w_p (pc1 := 54) (st1 := .int 9 :: _) rfl rfl ?_
          refine w_p (pc1 := 59) rfl rfl ?_
          refine w_p (pc1 := 60) (al1 := [(2, .int 9), (1, .int (nI (k))), (0, .ref 121)]) rfl rfl ?_
          refine w_p (pc1 := 61) rfl rfl ?_
          refine w_ji (pc1 := 64) (vs := [.ref 121]) (rest := []) (rR (d := _) F h1) rfl rfl rfl (fun _ _ => rfl) rfl (by exact cl_v my_60 rfl rfl rfl (Nat.le_of_ble_eq_true rfl) rfl (MH_obj rfl rfl) rfl (by decide) rfl rfl) (by rfl) (Nat.le_of_ble_eq_true rfl) (Nat.le_of_ble_eq_true rfl) rfl (fun v h1 d1 hq => ?_) (fun _ _ _ e => e.elim)
          rcases hq with ⟨hv, ⟨C1, F1, hh⟩, hn⟩
          · subst hv; subst hh; subst hn
            refine w_p (pc1 := 65) rfl rfl ?_
            refine w_m0 (pc1 := 68) rfl rfl (h_gC rfl rfl rfl rfl) rfl ?_
            refine w_ji (pc1 := 71) (vs := [.ref 101]) (rest := []) (nR (d := _) F1 hky) rfl rfl rfl (fun _ _ => rfl) rfl (by exact cl_v my_21 rfl rfl rfl (Nat.le_of_ble_eq_true rfl) rfl (MH_obj rfl rfl) rfl (by decide) rfl rfl) (by rfl) (Nat.le_of_ble_eq_true rfl) (Nat.le_of_ble_eq_true rfl) rfl (fun v h1 d1 hq => ?_) (fun _ _ _ e => e.elim)
            rcases hq with ⟨hv, ⟨C2, F2, hh⟩, hn⟩
            · subst hv; subst hh; subst hn
              refine w_p (pc1 := 72) rfl rfl ?_
              refine w_ji (pc1 := 75) (vs := [.ref 121]) (rest := []) (Wd_up (by rw [hxq]; omega) (jh (nxt y) c i _ h2 hc F2)) rfl rfl rfl (fun _ _ => rfl) rfl (by exact cl_v my_63 rfl rfl rfl (Nat.le_of_ble_eq_true rfl) rfl (MH_obj rfl rfl) rfl (by decide) rfl rfl) (by rfl) (Nat.le_of_ble_eq_true rfl) (Nat.le_of_ble_eq_true rfl) rfl (fun v h1 d1 hq => ?_) (fun a h1 d1 hq => ?_)
              · exact hq.elim
              · rcases hq with ⟨C9, f9, S9, ha, hh, hn⟩
                · subst ha; subst hh; subst hn
                  refine Or.inl ⟨ch_new (by decide) rfl, ?_⟩
                  exact ⟨C9, f9, S9, rfl, rfl, rfl⟩
        · skip
          refine w_p (pc1 := 7) rfl rfl ?_
          refine w_p (pc1 := 10) (st1 := .int 600 :: _) rfl rfl ?_
          refine w_f (a := 87) (b := 13) (bN_ge_f (a := k) (b := 600) (by omega) (by omega) (by omega)) rfl rfl ?_
          refine w_p (pc1 := 14) rfl rfl ?_
          refine w_m0 (pc1 := 17) rfl rfl (h_gC rfl rfl rfl rfl) rfl ?_
          refine w_m0 (pc1 := 20) (st1 := .ref (kd B n s.1) :: _) rfl rfl (h_gRs (j := 6) rfl rfl rfl rfl rfl (tkS_tok F.1)) rfl ?_
          refine w_m0 (pc1 := 23) (st1 := .ref 56 :: _) rfl rfl rfl rfl ?_
          refine w_ae_n (A := 39) (Bn := 26) (ok_kd) (by decide) (by rw [hk]; decide) rfl rfl rfl ?_
          refine w_p (pc1 := 27) rfl rfl ?_
          refine w_m0 (pc1 := 30) rfl rfl (h_gC rfl rfl rfl rfl) rfl ?_
          refine w_m0 (pc1 := 33) (st1 := .ref (kd B n s.1) :: _) rfl rfl (h_gRs (j := 6) rfl rfl rfl rfl rfl (tkS_tok F.1)) rfl ?_
          refine w_m0 (pc1 := 36) (st1 := .ref 57 :: _) rfl rfl rfl rfl ?_
          refine w_an_y (A := 87) (Bn := 39) (ok_kd) (by decide) (hk) rfl rfl rfl ?_
          refine w_p (pc1 := 40) rfl rfl ?_
          refine w_m0 (pc1 := 43) rfl rfl (h_gC rfl rfl rfl rfl) rfl ?_
          refine w_m0 (pc1 := 46) (st1 := .ref (kd B n s.1) :: _) rfl rfl (h_gRs (j := 6) rfl rfl rfl rfl rfl (tkS_tok F.1)) rfl ?_
          refine w_m0 (pc1 := 49) (st1 := .ref 56 :: _) rfl rfl rfl rfl ?_
          refine w_an_n (A := 57) (ok_kd) (by decide) (by rw [hk]; decide) rfl rfl ?_
          refine w_p (pc1 := 59) (st1 := .int 10 :: _) rfl rfl ?_
          refine w_p (pc1 := 60) (al1 := [(2, .int 10), (1, .int (nI (k))), (0, .ref 121)]) rfl rfl ?_
          refine w_p (pc1 := 61) rfl rfl ?_
          refine w_ji (pc1 := 64) (vs := [.ref 121]) (rest := []) (rR (d := _) F h1) rfl rfl rfl (fun _ _ => rfl) rfl (by exact cl_v my_60 rfl rfl rfl (Nat.le_of_ble_eq_true rfl) rfl (MH_obj rfl rfl) rfl (by decide) rfl rfl) (by rfl) (Nat.le_of_ble_eq_true rfl) (Nat.le_of_ble_eq_true rfl) rfl (fun v h1 d1 hq => ?_) (fun _ _ _ e => e.elim)
          rcases hq with ⟨hv, ⟨C1, F1, hh⟩, hn⟩
          · subst hv; subst hh; subst hn
            refine w_p (pc1 := 65) rfl rfl ?_
            refine w_m0 (pc1 := 68) rfl rfl (h_gC rfl rfl rfl rfl) rfl ?_
            refine w_ji (pc1 := 71) (vs := [.ref 101]) (rest := []) (nR (d := _) F1 hky) rfl rfl rfl (fun _ _ => rfl) rfl (by exact cl_v my_21 rfl rfl rfl (Nat.le_of_ble_eq_true rfl) rfl (MH_obj rfl rfl) rfl (by decide) rfl rfl) (by rfl) (Nat.le_of_ble_eq_true rfl) (Nat.le_of_ble_eq_true rfl) rfl (fun v h1 d1 hq => ?_) (fun _ _ _ e => e.elim)
            rcases hq with ⟨hv, ⟨C2, F2, hh⟩, hn⟩
            · subst hv; subst hh; subst hn
              refine w_p (pc1 := 72) rfl rfl ?_
              refine w_ji (pc1 := 75) (vs := [.ref 121]) (rest := []) (Wd_up (by rw [hxq]; omega) (jh (nxt y) c i _ h2 hc F2)) rfl rfl rfl (fun _ _ => rfl) rfl (by exact cl_v my_63 rfl rfl rfl (Nat.le_of_ble_eq_true rfl) rfl (MH_obj rfl rfl) rfl (by decide) rfl rfl) (by rfl) (Nat.le_of_ble_eq_true rfl) (Nat.le_of_ble_eq_true rfl) rfl (fun v h1 d1 hq => ?_) (fun a h1 d1 hq => ?_)
              · exact hq.elim
              · rcases hq with ⟨C9, f9, S9, ha, hh, hn⟩
                · subst ha; subst hh; subst hn
                  refine Or.inl ⟨ch_new (by decide) rfl, ?_⟩
                  exact ⟨C9, f9, S9, rfl, rfl, rfl⟩
    have hf := rd_fle _ _ _ _ h2
    have ho := fle_o (a := 0) (b := 0) h1 hf
    have hl := F.2.1
    have hul : x.2.1.length + 1 ≤ x.1 := by have := ho.2.1; omega
    have hxx : x.2.2.1 = s.2.2.1 := by rw [hf.2.2]; exact hxq
    have hk1 : k + 1 ≤ x.1 := by have := ho.2.2; omega
    cases u with
    | none =>
      rcases hop with hk | hk
      · skip
        rw [if_pos hk] at h
        refine w_p (pc1 := 7) rfl rfl ?_
        refine w_p (pc1 := 10) (st1 := .int 600 :: _) rfl rfl ?_
        refine w_f (a := 87) (b := 13) (bN_ge_f (a := k) (b := 600) (by omega) (by omega) (by omega)) rfl rfl ?_
        refine w_p (pc1 := 14) rfl rfl ?_
        refine w_m0 (pc1 := 17) rfl rfl (h_gC rfl rfl rfl rfl) rfl ?_
        refine w_m0 (pc1 := 20) (st1 := .ref (kd B n s.1) :: _) rfl rfl (h_gRs (j := 6) rfl rfl rfl rfl rfl (tkS_tok F.1)) rfl ?_
        refine w_m0 (pc1 := 23) (st1 := .ref 56 :: _) rfl rfl rfl rfl ?_
        refine w_ae_y (A := 39) (ok_kd) (by decide) (hk) rfl rfl ?_
        refine w_p (pc1 := 40) rfl rfl ?_
        refine w_m0 (pc1 := 43) rfl rfl (h_gC rfl rfl rfl rfl) rfl ?_
        refine w_m0 (pc1 := 46) (st1 := .ref (kd B n s.1) :: _) rfl rfl (h_gRs (j := 6) rfl rfl rfl rfl rfl (tkS_tok F.1)) rfl ?_
        refine w_m0 (pc1 := 49) (st1 := .ref 56 :: _) rfl rfl rfl rfl ?_
        refine w_an_y (A := 57) (Bn := 52) (ok_kd) (by decide) (hk) rfl rfl rfl ?_
        refine w_p (pc1 := 54) (st1 := .int 9 :: _) rfl rfl ?_
        refine w_p (pc1 := 59) rfl rfl ?_
        refine w_p (pc1 := 60) (al1 := [(2, .int 9), (1, .int (nI (k))), (0, .ref 121)]) rfl rfl ?_
        refine w_p (pc1 := 61) rfl rfl ?_
        refine w_ji (pc1 := 64) (vs := [.ref 121]) (rest := []) (rR (d := _) F h1) rfl rfl rfl (fun _ _ => rfl) rfl (by exact cl_v my_60 rfl rfl rfl (Nat.le_of_ble_eq_true rfl) rfl (MH_obj rfl rfl) rfl (by decide) rfl rfl) (by rfl) (Nat.le_of_ble_eq_true rfl) (Nat.le_of_ble_eq_true rfl) rfl (fun v h1 d1 hq => ?_) (fun _ _ _ e => e.elim)
        rcases hq with ⟨hv, ⟨C1, F1, hh⟩, hn⟩
        · subst hv; subst hh; subst hn
          refine w_p (pc1 := 65) rfl rfl ?_
          refine w_m0 (pc1 := 68) rfl rfl (h_gC rfl rfl rfl rfl) rfl ?_
          refine w_ji (pc1 := 71) (vs := [.ref 101]) (rest := []) (nR (d := _) F1 hky) rfl rfl rfl (fun _ _ => rfl) rfl (by exact cl_v my_21 rfl rfl rfl (Nat.le_of_ble_eq_true rfl) rfl (MH_obj rfl rfl) rfl (by decide) rfl rfl) (by rfl) (Nat.le_of_ble_eq_true rfl) (Nat.le_of_ble_eq_true rfl) rfl (fun v h1 d1 hq => ?_) (fun _ _ _ e => e.elim)
          rcases hq with ⟨hv, ⟨C2, F2, hh⟩, hn⟩
          · subst hv; subst hh; subst hn
            refine w_p (pc1 := 72) rfl rfl ?_
            refine w_ji (pc1 := 75) (vs := [.ref 121]) (rest := []) (Wd_up (by rw [hxq]; omega) (ih (nxt y) x _ h2 F2)) rfl rfl rfl (fun _ _ => rfl) rfl (by exact cl_v my_63 rfl rfl rfl (Nat.le_of_ble_eq_true rfl) rfl (MH_obj rfl rfl) rfl (by decide) rfl rfl) (by rfl) (Nat.le_of_ble_eq_true rfl) (Nat.le_of_ble_eq_true rfl) rfl (fun v h1 d1 hq => ?_) (fun _ _ _ e => e.elim)
            rcases hq with ⟨hv, ⟨C3, F3, hh⟩, hn⟩
            · subst hv; subst hh; subst hn
              refine w_p (pc1 := 76) rfl rfl ?_
              refine w_p (pc1 := 77) rfl rfl ?_
              refine w_p (pc1 := 78) (st1 := .int 0 :: _) rfl rfl ?_
              refine w_ji (pc1 := 81) (vs := [.ref 121, .int 9, .int 0]) (rest := []) (eR (d := _) F3 hul) rfl rfl rfl (fun _ _ => rfl) rfl (by exact cl_v my_61 rfl rfl rfl (Nat.le_of_ble_eq_true rfl) rfl (MH_obj rfl rfl) rfl (by decide) rfl rfl) (by rfl) (Nat.le_of_ble_eq_true rfl) (Nat.le_of_ble_eq_true rfl) rfl (fun v h1 d1 hq => ?_) (fun _ _ _ e => e.elim)
              rcases hq with ⟨hv, ⟨C4, F4, hh⟩, hn⟩
              · subst hv; subst hh; subst hn
                refine w_iinc (pc1 := 84) (u := nI (k)) (z := nI (k + 1)) (al1 := [(1, .int (nI (k + 1))), (2, .int 9), (0, .ref 121)]) rfl rfl rfl nK_1 rfl rfl ?_
                refine w_p (pc1 := 6) rfl rfl ?_
                exact Wd_up (by have e : (emt x 9 0).2.2.1 = s.2.2.1 := hxx; rw [e]; exact Nat.le_refl _) (jl (emt x 9 0) c i _ (k + 1) (some 9) (fun e => by cases e) h hc F4 hk1)
      · skip
        rw [if_neg (by rw [hk]; decide)] at h
        refine w_p (pc1 := 7) rfl rfl ?_
        refine w_p (pc1 := 10) (st1 := .int 600 :: _) rfl rfl ?_
        refine w_f (a := 87) (b := 13) (bN_ge_f (a := k) (b := 600) (by omega) (by omega) (by omega)) rfl rfl ?_
        refine w_p (pc1 := 14) rfl rfl ?_
        refine w_m0 (pc1 := 17) rfl rfl (h_gC rfl rfl rfl rfl) rfl ?_
        refine w_m0 (pc1 := 20) (st1 := .ref (kd B n s.1) :: _) rfl rfl (h_gRs (j := 6) rfl rfl rfl rfl rfl (tkS_tok F.1)) rfl ?_
        refine w_m0 (pc1 := 23) (st1 := .ref 56 :: _) rfl rfl rfl rfl ?_
        refine w_ae_n (A := 39) (Bn := 26) (ok_kd) (by decide) (by rw [hk]; decide) rfl rfl rfl ?_
        refine w_p (pc1 := 27) rfl rfl ?_
        refine w_m0 (pc1 := 30) rfl rfl (h_gC rfl rfl rfl rfl) rfl ?_
        refine w_m0 (pc1 := 33) (st1 := .ref (kd B n s.1) :: _) rfl rfl (h_gRs (j := 6) rfl rfl rfl rfl rfl (tkS_tok F.1)) rfl ?_
        refine w_m0 (pc1 := 36) (st1 := .ref 57 :: _) rfl rfl rfl rfl ?_
        refine w_an_y (A := 87) (Bn := 39) (ok_kd) (by decide) (hk) rfl rfl rfl ?_
        refine w_p (pc1 := 40) rfl rfl ?_
        refine w_m0 (pc1 := 43) rfl rfl (h_gC rfl rfl rfl rfl) rfl ?_
        refine w_m0 (pc1 := 46) (st1 := .ref (kd B n s.1) :: _) rfl rfl (h_gRs (j := 6) rfl rfl rfl rfl rfl (tkS_tok F.1)) rfl ?_
        refine w_m0 (pc1 := 49) (st1 := .ref 56 :: _) rfl rfl rfl rfl ?_
        refine w_an_n (A := 57) (ok_kd) (by decide) (by rw [hk]; decide) rfl rfl ?_
        refine w_p (pc1 := 59) (st1 := .int 10 :: _) rfl rfl ?_
        refine w_p (pc1 := 60) (al1 := [(2, .int 10), (1, .int (nI (k))), (0, .ref 121)]) rfl rfl ?_
        refine w_p (pc1 := 61) rfl rfl ?_
        refine w_ji (pc1 := 64) (vs := [.ref 121]) (rest := []) (rR (d := _) F h1) rfl rfl rfl (fun _ _ => rfl) rfl (by exact cl_v my_60 rfl rfl rfl (Nat.le_of_ble_eq_true rfl) rfl (MH_obj rfl rfl) rfl (by decide) rfl rfl) (by rfl) (Nat.le_of_ble_eq_true rfl) (Nat.le_of_ble_eq_true rfl) rfl (fun v h1 d1 hq => ?_) (fun _ _ _ e => e.elim)
        rcases hq with ⟨hv, ⟨C1, F1, hh⟩, hn⟩
        · subst hv; subst hh; subst hn
          refine w_p (pc1 := 65) rfl rfl ?_
          refine w_m0 (pc1 := 68) rfl rfl (h_gC rfl rfl rfl rfl) rfl ?_
          refine w_ji (pc1 := 71) (vs := [.ref 101]) (rest := []) (nR (d := _) F1 hky) rfl rfl rfl (fun _ _ => rfl) rfl (by exact cl_v my_21 rfl rfl rfl (Nat.le_of_ble_eq_true rfl) rfl (MH_obj rfl rfl) rfl (by decide) rfl rfl) (by rfl) (Nat.le_of_ble_eq_true rfl) (Nat.le_of_ble_eq_true rfl) rfl (fun v h1 d1 hq => ?_) (fun _ _ _ e => e.elim)
          rcases hq with ⟨hv, ⟨C2, F2, hh⟩, hn⟩
          · subst hv; subst hh; subst hn
            refine w_p (pc1 := 72) rfl rfl ?_
            refine w_ji (pc1 := 75) (vs := [.ref 121]) (rest := []) (Wd_up (by rw [hxq]; omega) (ih (nxt y) x _ h2 F2)) rfl rfl rfl (fun _ _ => rfl) rfl (by exact cl_v my_63 rfl rfl rfl (Nat.le_of_ble_eq_true rfl) rfl (MH_obj rfl rfl) rfl (by decide) rfl rfl) (by rfl) (Nat.le_of_ble_eq_true rfl) (Nat.le_of_ble_eq_true rfl) rfl (fun v h1 d1 hq => ?_) (fun _ _ _ e => e.elim)
            rcases hq with ⟨hv, ⟨C3, F3, hh⟩, hn⟩
            · subst hv; subst hh; subst hn
              refine w_p (pc1 := 76) rfl rfl ?_
              refine w_p (pc1 := 77) rfl rfl ?_
              refine w_p (pc1 := 78) (st1 := .int 0 :: _) rfl rfl ?_
              refine w_ji (pc1 := 81) (vs := [.ref 121, .int 10, .int 0]) (rest := []) (eR (d := _) F3 hul) rfl rfl rfl (fun _ _ => rfl) rfl (by exact cl_v my_61 rfl rfl rfl (Nat.le_of_ble_eq_true rfl) rfl (MH_obj rfl rfl) rfl (by decide) rfl rfl) (by rfl) (Nat.le_of_ble_eq_true rfl) (Nat.le_of_ble_eq_true rfl) rfl (fun v h1 d1 hq => ?_) (fun _ _ _ e => e.elim)
              rcases hq with ⟨hv, ⟨C4, F4, hh⟩, hn⟩
              · subst hv; subst hh; subst hn
                refine w_iinc (pc1 := 84) (u := nI (k)) (z := nI (k + 1)) (al1 := [(1, .int (nI (k + 1))), (2, .int 10), (0, .ref 121)]) rfl rfl rfl nK_1 rfl rfl ?_
                refine w_p (pc1 := 6) rfl rfl ?_
                exact Wd_up (by have e : (emt x 10 0).2.2.1 = s.2.2.1 := hxx; rw [e]; exact Nat.le_refl _) (jl (emt x 10 0) c i _ (k + 1) (some 10) (fun e => by cases e) h hc F4 hk1)
    | some x2 =>
      rcases hop with hk | hk
      · skip
        rw [if_pos hk] at h
        refine w_p (pc1 := 7) rfl rfl ?_
        refine w_p (pc1 := 10) (st1 := .int 600 :: _) rfl rfl ?_
        refine w_f (a := 87) (b := 13) (bN_ge_f (a := k) (b := 600) (by omega) (by omega) (by omega)) rfl rfl ?_
        refine w_p (pc1 := 14) rfl rfl ?_
        refine w_m0 (pc1 := 17) rfl rfl (h_gC rfl rfl rfl rfl) rfl ?_
        refine w_m0 (pc1 := 20) (st1 := .ref (kd B n s.1) :: _) rfl rfl (h_gRs (j := 6) rfl rfl rfl rfl rfl (tkS_tok F.1)) rfl ?_
        refine w_m0 (pc1 := 23) (st1 := .ref 56 :: _) rfl rfl rfl rfl ?_
        refine w_ae_y (A := 39) (ok_kd) (by decide) (hk) rfl rfl ?_
        refine w_p (pc1 := 40) rfl rfl ?_
        refine w_m0 (pc1 := 43) rfl rfl (h_gC rfl rfl rfl rfl) rfl ?_
        refine w_m0 (pc1 := 46) (st1 := .ref (kd B n s.1) :: _) rfl rfl (h_gRs (j := 6) rfl rfl rfl rfl rfl (tkS_tok F.1)) rfl ?_
        refine w_m0 (pc1 := 49) (st1 := .ref 56 :: _) rfl rfl rfl rfl ?_
        refine w_an_y (A := 57) (Bn := 52) (ok_kd) (by decide) (hk) rfl rfl rfl ?_
        refine w_p (pc1 := 54) (st1 := .int 9 :: _) rfl rfl ?_
        refine w_p (pc1 := 59) rfl rfl ?_
        refine w_p (pc1 := 60) (al1 := [(2, .int 9), (1, .int (nI (k))), (0, .ref 121)]) rfl rfl ?_
        refine w_p (pc1 := 61) rfl rfl ?_
        refine w_ji (pc1 := 64) (vs := [.ref 121]) (rest := []) (rR (d := _) F h1) rfl rfl rfl (fun _ _ => rfl) rfl (by exact cl_v my_60 rfl rfl rfl (Nat.le_of_ble_eq_true rfl) rfl (MH_obj rfl rfl) rfl (by decide) rfl rfl) (by rfl) (Nat.le_of_ble_eq_true rfl) (Nat.le_of_ble_eq_true rfl) rfl (fun v h1 d1 hq => ?_) (fun _ _ _ e => e.elim)
        rcases hq with ⟨hv, ⟨C1, F1, hh⟩, hn⟩
        · subst hv; subst hh; subst hn
          refine w_p (pc1 := 65) rfl rfl ?_
          refine w_m0 (pc1 := 68) rfl rfl (h_gC rfl rfl rfl rfl) rfl ?_
          refine w_ji (pc1 := 71) (vs := [.ref 101]) (rest := []) (nR (d := _) F1 hky) rfl rfl rfl (fun _ _ => rfl) rfl (by exact cl_v my_21 rfl rfl rfl (Nat.le_of_ble_eq_true rfl) rfl (MH_obj rfl rfl) rfl (by decide) rfl rfl) (by rfl) (Nat.le_of_ble_eq_true rfl) (Nat.le_of_ble_eq_true rfl) rfl (fun v h1 d1 hq => ?_) (fun _ _ _ e => e.elim)
          rcases hq with ⟨hv, ⟨C2, F2, hh⟩, hn⟩
          · subst hv; subst hh; subst hn
            refine w_p (pc1 := 72) rfl rfl ?_
            refine w_ji (pc1 := 75) (vs := [.ref 121]) (rest := []) (Wd_up (by rw [hxq]; omega) (ih (nxt y) x _ h2 F2)) rfl rfl rfl (fun _ _ => rfl) rfl (by exact cl_v my_63 rfl rfl rfl (Nat.le_of_ble_eq_true rfl) rfl (MH_obj rfl rfl) rfl (by decide) rfl rfl) (by rfl) (Nat.le_of_ble_eq_true rfl) (Nat.le_of_ble_eq_true rfl) rfl (fun v h1 d1 hq => ?_) (fun _ _ _ e => e.elim)
            rcases hq with ⟨hv, ⟨C3, F3, hh⟩, hn⟩
            · subst hv; subst hh; subst hn
              refine w_p (pc1 := 76) rfl rfl ?_
              refine w_p (pc1 := 77) rfl rfl ?_
              refine w_p (pc1 := 78) (st1 := .int 0 :: _) rfl rfl ?_
              refine w_ji (pc1 := 81) (vs := [.ref 121, .int 9, .int 0]) (rest := []) (eR (d := _) F3 hul) rfl rfl rfl (fun _ _ => rfl) rfl (by exact cl_v my_61 rfl rfl rfl (Nat.le_of_ble_eq_true rfl) rfl (MH_obj rfl rfl) rfl (by decide) rfl rfl) (by rfl) (Nat.le_of_ble_eq_true rfl) (Nat.le_of_ble_eq_true rfl) rfl (fun v h1 d1 hq => ?_) (fun _ _ _ e => e.elim)
              rcases hq with ⟨hv, ⟨C4, F4, hh⟩, hn⟩
              · subst hv; subst hh; subst hn
                refine w_iinc (pc1 := 84) (u := nI (k)) (z := nI (k + 1)) (al1 := [(1, .int (nI (k + 1))), (2, .int 9), (0, .ref 121)]) rfl rfl rfl nK_1 rfl rfl ?_
                refine w_p (pc1 := 6) rfl rfl ?_
                exact Wd_up (by have e : (emt x 9 0).2.2.1 = s.2.2.1 := hxx; rw [e]; exact Nat.le_refl _) (jl (emt x 9 0) c i _ (k + 1) (some 9) (fun e => by cases e) h hc F4 hk1)
      · skip
        rw [if_neg (by rw [hk]; decide)] at h
        refine w_p (pc1 := 7) rfl rfl ?_
        refine w_p (pc1 := 10) (st1 := .int 600 :: _) rfl rfl ?_
        refine w_f (a := 87) (b := 13) (bN_ge_f (a := k) (b := 600) (by omega) (by omega) (by omega)) rfl rfl ?_
        refine w_p (pc1 := 14) rfl rfl ?_
        refine w_m0 (pc1 := 17) rfl rfl (h_gC rfl rfl rfl rfl) rfl ?_
        refine w_m0 (pc1 := 20) (st1 := .ref (kd B n s.1) :: _) rfl rfl (h_gRs (j := 6) rfl rfl rfl rfl rfl (tkS_tok F.1)) rfl ?_
        refine w_m0 (pc1 := 23) (st1 := .ref 56 :: _) rfl rfl rfl rfl ?_
        refine w_ae_n (A := 39) (Bn := 26) (ok_kd) (by decide) (by rw [hk]; decide) rfl rfl rfl ?_
        refine w_p (pc1 := 27) rfl rfl ?_
        refine w_m0 (pc1 := 30) rfl rfl (h_gC rfl rfl rfl rfl) rfl ?_
        refine w_m0 (pc1 := 33) (st1 := .ref (kd B n s.1) :: _) rfl rfl (h_gRs (j := 6) rfl rfl rfl rfl rfl (tkS_tok F.1)) rfl ?_
        refine w_m0 (pc1 := 36) (st1 := .ref 57 :: _) rfl rfl rfl rfl ?_
        refine w_an_y (A := 87) (Bn := 39) (ok_kd) (by decide) (hk) rfl rfl rfl ?_
        refine w_p (pc1 := 40) rfl rfl ?_
        refine w_m0 (pc1 := 43) rfl rfl (h_gC rfl rfl rfl rfl) rfl ?_
        refine w_m0 (pc1 := 46) (st1 := .ref (kd B n s.1) :: _) rfl rfl (h_gRs (j := 6) rfl rfl rfl rfl rfl (tkS_tok F.1)) rfl ?_
        refine w_m0 (pc1 := 49) (st1 := .ref 56 :: _) rfl rfl rfl rfl ?_
        refine w_an_n (A := 57) (ok_kd) (by decide) (by rw [hk]; decide) rfl rfl ?_
        refine w_p (pc1 := 59) (st1 := .int 10 :: _) rfl rfl ?_
        refine w_p (pc1 := 60) (al1 := [(2, .int 10), (1, .int (nI (k))), (0, .ref 121)]) rfl rfl ?_
        refine w_p (pc1 := 61) rfl rfl ?_
        refine w_ji (pc1 := 64) (vs := [.ref 121]) (rest := []) (rR (d := _) F h1) rfl rfl rfl (fun _ _ => rfl) rfl (by exact cl_v my_60 rfl rfl rfl (Nat.le_of_ble_eq_true rfl) rfl (MH_obj rfl rfl) rfl (by decide) rfl rfl) (by rfl) (Nat.le_of_ble_eq_true rfl) (Nat.le_of_ble_eq_true rfl) rfl (fun v h1 d1 hq => ?_) (fun _ _ _ e => e.elim)
        rcases hq with ⟨hv, ⟨C1, F1, hh⟩, hn⟩
        · subst hv; subst hh; subst hn
          refine w_p (pc1 := 65) rfl rfl ?_
          refine w_m0 (pc1 := 68) rfl rfl (h_gC rfl rfl rfl rfl) rfl ?_
          refine w_ji (pc1 := 71) (vs := [.ref 101]) (rest := []) (nR (d := _) F1 hky) rfl rfl rfl (fun _ _ => rfl) rfl (by exact cl_v my_21 rfl rfl rfl (Nat.le_of_ble_eq_true rfl) rfl (MH_obj rfl rfl) rfl (by decide) rfl rfl) (by rfl) (Nat.le_of_ble_eq_true rfl) (Nat.le_of_ble_eq_true rfl) rfl (fun v h1 d1 hq => ?_) (fun _ _ _ e => e.elim)
          rcases hq with ⟨hv, ⟨C2, F2, hh⟩, hn⟩
          · subst hv; subst hh; subst hn
            refine w_p (pc1 := 72) rfl rfl ?_
            refine w_ji (pc1 := 75) (vs := [.ref 121]) (rest := []) (Wd_up (by rw [hxq]; omega) (ih (nxt y) x _ h2 F2)) rfl rfl rfl (fun _ _ => rfl) rfl (by exact cl_v my_63 rfl rfl rfl (Nat.le_of_ble_eq_true rfl) rfl (MH_obj rfl rfl) rfl (by decide) rfl rfl) (by rfl) (Nat.le_of_ble_eq_true rfl) (Nat.le_of_ble_eq_true rfl) rfl (fun v h1 d1 hq => ?_) (fun _ _ _ e => e.elim)
            rcases hq with ⟨hv, ⟨C3, F3, hh⟩, hn⟩
            · subst hv; subst hh; subst hn
              refine w_p (pc1 := 76) rfl rfl ?_
              refine w_p (pc1 := 77) rfl rfl ?_
              refine w_p (pc1 := 78) (st1 := .int 0 :: _) rfl rfl ?_
              refine w_ji (pc1 := 81) (vs := [.ref 121, .int 10, .int 0]) (rest := []) (eR (d := _) F3 hul) rfl rfl rfl (fun _ _ => rfl) rfl (by exact cl_v my_61 rfl rfl rfl (Nat.le_of_ble_eq_true rfl) rfl (MH_obj rfl rfl) rfl (by decide) rfl rfl) (by rfl) (Nat.le_of_ble_eq_true rfl) (Nat.le_of_ble_eq_true rfl) rfl (fun v h1 d1 hq => ?_) (fun _ _ _ e => e.elim)
              rcases hq with ⟨hv, ⟨C4, F4, hh⟩, hn⟩
              · subst hv; subst hh; subst hn
                refine w_iinc (pc1 := 84) (u := nI (k)) (z := nI (k + 1)) (al1 := [(1, .int (nI (k + 1))), (2, .int 10), (0, .ref 121)]) rfl rfl rfl nK_1 rfl rfl ?_
                refine w_p (pc1 := 6) rfl rfl ?_
                exact Wd_up (by have e : (emt x 10 0).2.2.1 = s.2.2.1 := hxx; rw [e]; exact Nat.le_refl _) (jl (emt x 10 0) c i _ (k + 1) (some 10) (fun e => by cases e) h hc F4 hk1)
  · rw [if_neg hop] at h
    cases h
set_option maxRecDepth 100000 in
theorem smm_r (ih : Gr L xs B n m C0 t E f 1 y_63 13) (il : Lr L xs B n m C0 t E f 4 y_62 14 true) : Gr L xs B n m C0 t E (f + 1) 3 y_62 14 := by
  intro s z C h F
  unfold rd at h
  simp only at h
  obtain ⟨y, h1, h2⟩ := bnd_s h
  have hq := (rd_fle _ _ _ _ h1).2.2
  refine w_p (pc1 := 1) rfl rfl ?_
  refine w_ji (pc1 := 4) (vs := [.ref 121]) (rest := []) (ih s y _ h1 F) rfl rfl rfl (fun _ _ => rfl) rfl (by exact cl_v my_63 rfl rfl rfl (Nat.le_of_ble_eq_true rfl) rfl (MH_obj rfl rfl) rfl (by decide) rfl rfl) (by rfl) (Nat.le_of_ble_eq_true rfl) (Nat.le_of_ble_eq_true rfl) rfl (fun v h1 d1 hq => ?_) (fun _ _ _ e => e.elim)
  rcases hq with ⟨hv, ⟨C1, F1, hh⟩, hn⟩
  · subst hv; subst hh; subst hn
    refine w_p (pc1 := 5) (st1 := .int 0 :: _) rfl rfl ?_
    refine w_p (pc1 := 6) (al1 := [(1, .int 0), (0, .ref 121)]) rfl rfl ?_
    exact Wd_up (by rw [hq]; exact Nat.le_refl _) (il y z _ 0 none (fun _ => rfl) h2 F1 (Nat.zero_le _))
set_option maxRecDepth 100000 in
theorem smm_e (ih : Gr L xs B n m C0 t E f 1 y_63 13) (jh : Ge L xs B n m C0 t E f 1 y_63 13) (jl : Le L xs B n m C0 t E f 4 y_62 14 true) : Ge L xs B n m C0 t E (f + 1) 3 y_62 14 := by
  intro s c i C h hc F
  unfold rd at h
  simp only at h
  rcases bnd_e h with h1 | ⟨y, h1, h2⟩
  · skip
    refine w_p (pc1 := 1) rfl rfl ?_
    refine w_ji (pc1 := 4) (vs := [.ref 121]) (rest := []) (jh s c i _ h1 hc F) rfl rfl rfl (fun _ _ => rfl) rfl (by exact cl_v my_63 rfl rfl rfl (Nat.le_of_ble_eq_true rfl) rfl (MH_obj rfl rfl) rfl (by decide) rfl rfl) (by rfl) (Nat.le_of_ble_eq_true rfl) (Nat.le_of_ble_eq_true rfl) rfl (fun v h1 d1 hq => ?_) (fun a h1 d1 hq => ?_)
    · exact hq.elim
    · rcases hq with ⟨C9, f9, S9, ha, hh, hn⟩
      · subst ha; subst hh; subst hn
        refine Or.inl ⟨ch_new (by decide) rfl, ?_⟩
        exact ⟨C9, f9, S9, rfl, rfl, rfl⟩
  · have hq := (rd_fle _ _ _ _ h1).2.2
    refine w_p (pc1 := 1) rfl rfl ?_
    refine w_ji (pc1 := 4) (vs := [.ref 121]) (rest := []) (ih s y _ h1 F) rfl rfl rfl (fun _ _ => rfl) rfl (by exact cl_v my_63 rfl rfl rfl (Nat.le_of_ble_eq_true rfl) rfl (MH_obj rfl rfl) rfl (by decide) rfl rfl) (by rfl) (Nat.le_of_ble_eq_true rfl) (Nat.le_of_ble_eq_true rfl) rfl (fun v h1 d1 hq => ?_) (fun _ _ _ e => e.elim)
    rcases hq with ⟨hv, ⟨C1, F1, hh⟩, hn⟩
    · subst hv; subst hh; subst hn
      refine w_p (pc1 := 5) (st1 := .int 0 :: _) rfl rfl ?_
      refine w_p (pc1 := 6) (al1 := [(1, .int 0), (0, .ref 121)]) rfl rfl ?_
      exact Wd_up (by rw [hq]; exact Nat.le_refl _) (jl y c i _ 0 none (fun _ => rfl) h2 hc F1 (Nat.zero_le _))
set_option maxRecDepth 100000 in
theorem bth_lr (hE : E.1 = kd B n) (ih : Gr L xs B n m C0 t E f 5 y_58 16) (il : Lr L xs B n m C0 t E f 7 y_57 17 false) : Lr L xs B n m C0 t E (f + 1) 7 y_57 17 false := by
  intro s z C k u hu h F hk0
  unfold rd at h
  simp only [hE] at h
  by_cases hop : kd B n s.1 = 7
  · rw [if_pos hop] at h
    obtain ⟨y, h1, h⟩ := bnd_s h
    obtain ⟨x, h2, h⟩ := bnd_s h
    have hx := spd_s h1
    have hxq : (nxt y).2.2.1 = s.2.2.1 := hx.2.2
    have hnk : kd B n s.1 ≠ 1 ∧ kd B n s.1 ≠ 2 := by omega
    have hky : kd B n y.1 ≠ 1 ∧ kd B n y.1 ≠ 2 := by rw [hx.1]; exact hnk
    have h6 := tkS_600 F.1
    have hlt := tkS_lt F.1 hnk.1 hnk.2
    have hf := rd_fle _ _ _ _ h2
    have ho := fle_o (a := 0) (b := 0) h1 hf
    have hl := F.2.1
    have hul : x.2.1.length + 1 ≤ x.1 := by have := ho.2.1; omega
    have hxx : x.2.2.1 = s.2.2.1 := by rw [hf.2.2]; exact hxq
    have hk1 : k + 1 ≤ x.1 := by have := ho.2.2; omega
    have hu2 := hu rfl
    subst hu2
    have hk := hop
    refine w_p (pc1 := 7) rfl rfl ?_
    refine w_p (pc1 := 10) (st1 := .int 600 :: _) rfl rfl ?_
    refine w_f (a := 54) (b := 13) (bN_ge_f (a := k) (b := 600) (by omega) (by omega) (by omega)) rfl rfl ?_
    refine w_p (pc1 := 14) rfl rfl ?_
    refine w_m0 (pc1 := 17) rfl rfl (h_gC rfl rfl rfl rfl) rfl ?_
    refine w_m0 (pc1 := 20) (st1 := .ref (kd B n s.1) :: _) rfl rfl (h_gRs (j := 6) rfl rfl rfl rfl rfl (tkS_tok F.1)) rfl ?_
    refine w_m0 (pc1 := 23) (st1 := .ref 7 :: _) rfl rfl rfl rfl ?_
    refine w_an_y (A := 54) (Bn := 26) (ok_kd) (by decide) (hk) rfl rfl rfl ?_
    refine w_p (pc1 := 27) rfl rfl ?_
    refine w_ji (pc1 := 30) (vs := [.ref 121]) (rest := []) (rR (d := _) F h1) rfl rfl rfl (fun _ _ => rfl) rfl (by exact cl_v my_60 rfl rfl rfl (Nat.le_of_ble_eq_true rfl) rfl (MH_obj rfl rfl) rfl (by decide) rfl rfl) (by rfl) (Nat.le_of_ble_eq_true rfl) (Nat.le_of_ble_eq_true rfl) rfl (fun v h1 d1 hq => ?_) (fun _ _ _ e => e.elim)
    rcases hq with ⟨hv, ⟨C1, F1, hh⟩, hn⟩
    · subst hv; subst hh; subst hn
      refine w_p (pc1 := 31) rfl rfl ?_
      refine w_m0 (pc1 := 34) rfl rfl (h_gC rfl rfl rfl rfl) rfl ?_
      refine w_ji (pc1 := 37) (vs := [.ref 101]) (rest := []) (nR (d := _) F1 hky) rfl rfl rfl (fun _ _ => rfl) rfl (by exact cl_v my_21 rfl rfl rfl (Nat.le_of_ble_eq_true rfl) rfl (MH_obj rfl rfl) rfl (by decide) rfl rfl) (by rfl) (Nat.le_of_ble_eq_true rfl) (Nat.le_of_ble_eq_true rfl) rfl (fun v h1 d1 hq => ?_) (fun _ _ _ e => e.elim)
      rcases hq with ⟨hv, ⟨C2, F2, hh⟩, hn⟩
      · subst hv; subst hh; subst hn
        refine w_p (pc1 := 38) rfl rfl ?_
        refine w_ji (pc1 := 41) (vs := [.ref 121]) (rest := []) (Wd_up (by rw [hxq]; omega) (ih (nxt y) x _ h2 F2)) rfl rfl rfl (fun _ _ => rfl) rfl (by exact cl_v my_58 rfl rfl rfl (Nat.le_of_ble_eq_true rfl) rfl (MH_obj rfl rfl) rfl (by decide) rfl rfl) (by rfl) (Nat.le_of_ble_eq_true rfl) (Nat.le_of_ble_eq_true rfl) rfl (fun v h1 d1 hq => ?_) (fun _ _ _ e => e.elim)
        rcases hq with ⟨hv, ⟨C3, F3, hh⟩, hn⟩
        · subst hv; subst hh; subst hn
          refine w_p (pc1 := 42) rfl rfl ?_
          refine w_p (pc1 := 44) (st1 := .int 19 :: _) rfl rfl ?_
          refine w_p (pc1 := 45) (st1 := .int 0 :: _) rfl rfl ?_
          refine w_ji (pc1 := 48) (vs := [.ref 121, .int 19, .int 0]) (rest := []) (eR (d := _) F3 hul) rfl rfl rfl (fun _ _ => rfl) rfl (by exact cl_v my_61 rfl rfl rfl (Nat.le_of_ble_eq_true rfl) rfl (MH_obj rfl rfl) rfl (by decide) rfl rfl) (by rfl) (Nat.le_of_ble_eq_true rfl) (Nat.le_of_ble_eq_true rfl) rfl (fun v h1 d1 hq => ?_) (fun _ _ _ e => e.elim)
          rcases hq with ⟨hv, ⟨C4, F4, hh⟩, hn⟩
          · subst hv; subst hh; subst hn
            refine w_iinc (pc1 := 51) (u := nI (k)) (z := nI (k + 1)) (al1 := [(1, .int (nI (k + 1))), (0, .ref 121)]) rfl rfl rfl nK_1 rfl rfl ?_
            refine w_p (pc1 := 6) rfl rfl ?_
            exact Wd_up (by have e : (emt x 19 0).2.2.1 = s.2.2.1 := hxx; rw [e]; exact Nat.le_refl _) (il (emt x 19 0) z _ (k + 1) none (fun e => rfl) h F4 hk1)
  · rw [if_neg hop] at h
    cases h
    have h6 := tkS_600 F.1
    have hm := F.1.2.2.2.1
    have hu2 := hu rfl
    subst hu2
    by_cases h600 : k < 600
    · skip
      refine w_p (pc1 := 7) rfl rfl ?_
      refine w_p (pc1 := 10) (st1 := .int 600 :: _) rfl rfl ?_
      refine w_f (a := 54) (b := 13) (bN_ge_f (a := k) (b := 600) (by omega) (by omega) (by omega)) rfl rfl ?_
      refine w_p (pc1 := 14) rfl rfl ?_
      refine w_m0 (pc1 := 17) rfl rfl (h_gC rfl rfl rfl rfl) rfl ?_
      refine w_m0 (pc1 := 20) (st1 := .ref (kd B n s.1) :: _) rfl rfl (h_gRs (j := 6) rfl rfl rfl rfl rfl (tkS_tok F.1)) rfl ?_
      refine w_m0 (pc1 := 23) (st1 := .ref 7 :: _) rfl rfl rfl rfl ?_
      refine w_an_n (A := 54) (ok_kd) (by decide) (hop) rfl rfl ?_
      refine w_r rfl rfl rfl (fun _ _ => rfl) rfl ?_
      exact PF_i F
    · skip
      refine w_p (pc1 := 7) rfl rfl ?_
      refine w_p (pc1 := 10) (st1 := .int 600 :: _) rfl rfl ?_
      refine w_t (a := 54) (b := 13) (bN_ge_t (a := k) (b := 600) (by omega) (by omega) (by omega)) rfl rfl ?_
      refine w_r rfl rfl rfl (fun _ _ => rfl) rfl ?_
      exact PF_i F
set_option maxRecDepth 100000 in
theorem bth_le (hE : E.1 = kd B n) (ih : Gr L xs B n m C0 t E f 5 y_58 16) (il : Lr L xs B n m C0 t E f 7 y_57 17 false) (jh : Ge L xs B n m C0 t E f 5 y_58 16) (jl : Le L xs B n m C0 t E f 7 y_57 17 false) : Le L xs B n m C0 t E (f + 1) 7 y_57 17 false := by
  intro s c i C k u hu h hc F hk0
  unfold rd at h
  simp only [hE] at h
  by_cases hop : kd B n s.1 = 7
  · rw [if_pos hop] at h
    have hnk : kd B n s.1 ≠ 1 ∧ kd B n s.1 ≠ 2 := by omega
    have h6 := tkS_600 F.1
    have hlt := tkS_lt F.1 hnk.1 hnk.2
    have hu2 := hu rfl
    subst hu2
    have hk := hop
    rcases bnd_e h with h1 | ⟨y, h1, h⟩
    · skip
      refine w_p (pc1 := 7) rfl rfl ?_
      refine w_p (pc1 := 10) (st1 := .int 600 :: _) rfl rfl ?_
      refine w_f (a := 54) (b := 13) (bN_ge_f (a := k) (b := 600) (by omega) (by omega) (by omega)) rfl rfl ?_
      refine w_p (pc1 := 14) rfl rfl ?_
      refine w_m0 (pc1 := 17) rfl rfl (h_gC rfl rfl rfl rfl) rfl ?_
      refine w_m0 (pc1 := 20) (st1 := .ref (kd B n s.1) :: _) rfl rfl (h_gRs (j := 6) rfl rfl rfl rfl rfl (tkS_tok F.1)) rfl ?_
      refine w_m0 (pc1 := 23) (st1 := .ref 7 :: _) rfl rfl rfl rfl ?_
      refine w_an_y (A := 54) (Bn := 26) (ok_kd) (by decide) (hk) rfl rfl rfl ?_
      refine w_p (pc1 := 27) rfl rfl ?_
      refine w_ji (pc1 := 30) (vs := [.ref 121]) (rest := []) (rE (d := _) F h1) rfl rfl rfl (fun _ _ => rfl) rfl (by exact cl_v my_60 rfl rfl rfl (Nat.le_of_ble_eq_true rfl) rfl (MH_obj rfl rfl) rfl (by decide) rfl rfl) (by rfl) (Nat.le_of_ble_eq_true rfl) (Nat.le_of_ble_eq_true rfl) rfl (fun v h1 d1 hq => ?_) (fun a h1 d1 hq => ?_)
      · exact hq.elim
      · rcases hq with ⟨C9, f9, S9, ha, hh, hn⟩
        · subst ha; subst hh; subst hn
          refine Or.inl ⟨ch_new (by decide) rfl, ?_⟩
          exact ⟨C9, f9, S9, rfl, rfl, rfl⟩
    have hx := spd_s h1
    have hxq : (nxt y).2.2.1 = s.2.2.1 := hx.2.2
    have hky : kd B n y.1 ≠ 1 ∧ kd B n y.1 ≠ 2 := by rw [hx.1]; exact hnk
    rcases bnd_e h with h2 | ⟨x, h2, h⟩
    · skip
      refine w_p (pc1 := 7) rfl rfl ?_
      refine w_p (pc1 := 10) (st1 := .int 600 :: _) rfl rfl ?_
      refine w_f (a := 54) (b := 13) (bN_ge_f (a := k) (b := 600) (by omega) (by omega) (by omega)) rfl rfl ?_
      refine w_p (pc1 := 14) rfl rfl ?_
      refine w_m0 (pc1 := 17) rfl rfl (h_gC rfl rfl rfl rfl) rfl ?_
      refine w_m0 (pc1 := 20) (st1 := .ref (kd B n s.1) :: _) rfl rfl (h_gRs (j := 6) rfl rfl rfl rfl rfl (tkS_tok F.1)) rfl ?_
      refine w_m0 (pc1 := 23) (st1 := .ref 7 :: _) rfl rfl rfl rfl ?_
      refine w_an_y (A := 54) (Bn := 26) (ok_kd) (by decide) (hk) rfl rfl rfl ?_
      refine w_p (pc1 := 27) rfl rfl ?_
      refine w_ji (pc1 := 30) (vs := [.ref 121]) (rest := []) (rR (d := _) F h1) rfl rfl rfl (fun _ _ => rfl) rfl (by exact cl_v my_60 rfl rfl rfl (Nat.le_of_ble_eq_true rfl) rfl (MH_obj rfl rfl) rfl (by decide) rfl rfl) (by rfl) (Nat.le_of_ble_eq_true rfl) (Nat.le_of_ble_eq_true rfl) rfl (fun v h1 d1 hq => ?_) (fun _ _ _ e => e.elim)
      rcases hq with ⟨hv, ⟨C1, F1, hh⟩, hn⟩
      · subst hv; subst hh; subst hn
        refine w_p (pc1 := 31) rfl rfl ?_
        refine w_m0 (pc1 := 34) rfl rfl (h_gC rfl rfl rfl rfl) rfl ?_
        refine w_ji (pc1 := 37) (vs := [.ref 101]) (rest := []) (nR (d := _) F1 hky) rfl rfl rfl (fun _ _ => rfl) rfl (by exact cl_v my_21 rfl rfl rfl (Nat.le_of_ble_eq_true rfl) rfl (MH_obj rfl rfl) rfl (by decide) rfl rfl) (by rfl) (Nat.le_of_ble_eq_true rfl) (Nat.le_of_ble_eq_true rfl) rfl (fun v h1 d1 hq => ?_) (fun _ _ _ e => e.elim)
        rcases hq with ⟨hv, ⟨C2, F2, hh⟩, hn⟩
        · subst hv; subst hh; subst hn
          refine w_p (pc1 := 38) rfl rfl ?_
          refine w_ji (pc1 := 41) (vs := [.ref 121]) (rest := []) (Wd_up (by rw [hxq]; omega) (jh (nxt y) c i _ h2 hc F2)) rfl rfl rfl (fun _ _ => rfl) rfl (by exact cl_v my_58 rfl rfl rfl (Nat.le_of_ble_eq_true rfl) rfl (MH_obj rfl rfl) rfl (by decide) rfl rfl) (by rfl) (Nat.le_of_ble_eq_true rfl) (Nat.le_of_ble_eq_true rfl) rfl (fun v h1 d1 hq => ?_) (fun a h1 d1 hq => ?_)
          · exact hq.elim
          · rcases hq with ⟨C9, f9, S9, ha, hh, hn⟩
            · subst ha; subst hh; subst hn
              refine Or.inl ⟨ch_new (by decide) rfl, ?_⟩
              exact ⟨C9, f9, S9, rfl, rfl, rfl⟩
    have hf := rd_fle _ _ _ _ h2
    have ho := fle_o (a := 0) (b := 0) h1 hf
    have hl := F.2.1
    have hul : x.2.1.length + 1 ≤ x.1 := by have := ho.2.1; omega
    have hxx : x.2.2.1 = s.2.2.1 := by rw [hf.2.2]; exact hxq
    have hk1 : k + 1 ≤ x.1 := by have := ho.2.2; omega
    refine w_p (pc1 := 7) rfl rfl ?_
    refine w_p (pc1 := 10) (st1 := .int 600 :: _) rfl rfl ?_
    refine w_f (a := 54) (b := 13) (bN_ge_f (a := k) (b := 600) (by omega) (by omega) (by omega)) rfl rfl ?_
    refine w_p (pc1 := 14) rfl rfl ?_
    refine w_m0 (pc1 := 17) rfl rfl (h_gC rfl rfl rfl rfl) rfl ?_
    refine w_m0 (pc1 := 20) (st1 := .ref (kd B n s.1) :: _) rfl rfl (h_gRs (j := 6) rfl rfl rfl rfl rfl (tkS_tok F.1)) rfl ?_
    refine w_m0 (pc1 := 23) (st1 := .ref 7 :: _) rfl rfl rfl rfl ?_
    refine w_an_y (A := 54) (Bn := 26) (ok_kd) (by decide) (hk) rfl rfl rfl ?_
    refine w_p (pc1 := 27) rfl rfl ?_
    refine w_ji (pc1 := 30) (vs := [.ref 121]) (rest := []) (rR (d := _) F h1) rfl rfl rfl (fun _ _ => rfl) rfl (by exact cl_v my_60 rfl rfl rfl (Nat.le_of_ble_eq_true rfl) rfl (MH_obj rfl rfl) rfl (by decide) rfl rfl) (by rfl) (Nat.le_of_ble_eq_true rfl) (Nat.le_of_ble_eq_true rfl) rfl (fun v h1 d1 hq => ?_) (fun _ _ _ e => e.elim)
    rcases hq with ⟨hv, ⟨C1, F1, hh⟩, hn⟩
    · subst hv; subst hh; subst hn
      refine w_p (pc1 := 31) rfl rfl ?_
      refine w_m0 (pc1 := 34) rfl rfl (h_gC rfl rfl rfl rfl) rfl ?_
      refine w_ji (pc1 := 37) (vs := [.ref 101]) (rest := []) (nR (d := _) F1 hky) rfl rfl rfl (fun _ _ => rfl) rfl (by exact cl_v my_21 rfl rfl rfl (Nat.le_of_ble_eq_true rfl) rfl (MH_obj rfl rfl) rfl (by decide) rfl rfl) (by rfl) (Nat.le_of_ble_eq_true rfl) (Nat.le_of_ble_eq_true rfl) rfl (fun v h1 d1 hq => ?_) (fun _ _ _ e => e.elim)
      rcases hq with ⟨hv, ⟨C2, F2, hh⟩, hn⟩
      · subst hv; subst hh; subst hn
        refine w_p (pc1 := 38) rfl rfl ?_
        refine w_ji (pc1 := 41) (vs := [.ref 121]) (rest := []) (Wd_up (by rw [hxq]; omega) (ih (nxt y) x _ h2 F2)) rfl rfl rfl (fun _ _ => rfl) rfl (by exact cl_v my_58 rfl rfl rfl (Nat.le_of_ble_eq_true rfl) rfl (MH_obj rfl rfl) rfl (by decide) rfl rfl) (by rfl) (Nat.le_of_ble_eq_true rfl) (Nat.le_of_ble_eq_true rfl) rfl (fun v h1 d1 hq => ?_) (fun _ _ _ e => e.elim)
        rcases hq with ⟨hv, ⟨C3, F3, hh⟩, hn⟩
        · subst hv; subst hh; subst hn
          refine w_p (pc1 := 42) rfl rfl ?_
          refine w_p (pc1 := 44) (st1 := .int 19 :: _) rfl rfl ?_
          refine w_p (pc1 := 45) (st1 := .int 0 :: _) rfl rfl ?_
          refine w_ji (pc1 := 48) (vs := [.ref 121, .int 19, .int 0]) (rest := []) (eR (d := _) F3 hul) rfl rfl rfl (fun _ _ => rfl) rfl (by exact cl_v my_61 rfl rfl rfl (Nat.le_of_ble_eq_true rfl) rfl (MH_obj rfl rfl) rfl (by decide) rfl rfl) (by rfl) (Nat.le_of_ble_eq_true rfl) (Nat.le_of_ble_eq_true rfl) rfl (fun v h1 d1 hq => ?_) (fun _ _ _ e => e.elim)
          rcases hq with ⟨hv, ⟨C4, F4, hh⟩, hn⟩
          · subst hv; subst hh; subst hn
            refine w_iinc (pc1 := 51) (u := nI (k)) (z := nI (k + 1)) (al1 := [(1, .int (nI (k + 1))), (0, .ref 121)]) rfl rfl rfl nK_1 rfl rfl ?_
            refine w_p (pc1 := 6) rfl rfl ?_
            exact Wd_up (by have e : (emt x 19 0).2.2.1 = s.2.2.1 := hxx; rw [e]; exact Nat.le_refl _) (jl (emt x 19 0) c i _ (k + 1) none (fun e => rfl) h hc F4 hk1)
  · rw [if_neg hop] at h
    cases h
set_option maxRecDepth 100000 in
theorem bth_r (ih : Gr L xs B n m C0 t E f 5 y_58 16) (il : Lr L xs B n m C0 t E f 7 y_57 17 false) : Gr L xs B n m C0 t E (f + 1) 6 y_57 17 := by
  intro s z C h F
  unfold rd at h
  simp only at h
  obtain ⟨y, h1, h2⟩ := bnd_s h
  have hq := (rd_fle _ _ _ _ h1).2.2
  refine w_p (pc1 := 1) rfl rfl ?_
  refine w_ji (pc1 := 4) (vs := [.ref 121]) (rest := []) (ih s y _ h1 F) rfl rfl rfl (fun _ _ => rfl) rfl (by exact cl_v my_58 rfl rfl rfl (Nat.le_of_ble_eq_true rfl) rfl (MH_obj rfl rfl) rfl (by decide) rfl rfl) (by rfl) (Nat.le_of_ble_eq_true rfl) (Nat.le_of_ble_eq_true rfl) rfl (fun v h1 d1 hq => ?_) (fun _ _ _ e => e.elim)
  rcases hq with ⟨hv, ⟨C1, F1, hh⟩, hn⟩
  · subst hv; subst hh; subst hn
    refine w_p (pc1 := 5) (st1 := .int 0 :: _) rfl rfl ?_
    refine w_p (pc1 := 6) (al1 := [(1, .int 0), (0, .ref 121)]) rfl rfl ?_
    exact Wd_up (by rw [hq]; exact Nat.le_refl _) (il y z _ 0 none (fun _ => rfl) h2 F1 (Nat.zero_le _))
set_option maxRecDepth 100000 in
theorem bth_e (ih : Gr L xs B n m C0 t E f 5 y_58 16) (jh : Ge L xs B n m C0 t E f 5 y_58 16) (jl : Le L xs B n m C0 t E f 7 y_57 17 false) : Ge L xs B n m C0 t E (f + 1) 6 y_57 17 := by
  intro s c i C h hc F
  unfold rd at h
  simp only at h
  rcases bnd_e h with h1 | ⟨y, h1, h2⟩
  · skip
    refine w_p (pc1 := 1) rfl rfl ?_
    refine w_ji (pc1 := 4) (vs := [.ref 121]) (rest := []) (jh s c i _ h1 hc F) rfl rfl rfl (fun _ _ => rfl) rfl (by exact cl_v my_58 rfl rfl rfl (Nat.le_of_ble_eq_true rfl) rfl (MH_obj rfl rfl) rfl (by decide) rfl rfl) (by rfl) (Nat.le_of_ble_eq_true rfl) (Nat.le_of_ble_eq_true rfl) rfl (fun v h1 d1 hq => ?_) (fun a h1 d1 hq => ?_)
    · exact hq.elim
    · rcases hq with ⟨C9, f9, S9, ha, hh, hn⟩
      · subst ha; subst hh; subst hn
        refine Or.inl ⟨ch_new (by decide) rfl, ?_⟩
        exact ⟨C9, f9, S9, rfl, rfl, rfl⟩
  · have hq := (rd_fle _ _ _ _ h1).2.2
    refine w_p (pc1 := 1) rfl rfl ?_
    refine w_ji (pc1 := 4) (vs := [.ref 121]) (rest := []) (ih s y _ h1 F) rfl rfl rfl (fun _ _ => rfl) rfl (by exact cl_v my_58 rfl rfl rfl (Nat.le_of_ble_eq_true rfl) rfl (MH_obj rfl rfl) rfl (by decide) rfl rfl) (by rfl) (Nat.le_of_ble_eq_true rfl) (Nat.le_of_ble_eq_true rfl) rfl (fun v h1 d1 hq => ?_) (fun _ _ _ e => e.elim)
    rcases hq with ⟨hv, ⟨C1, F1, hh⟩, hn⟩
    · subst hv; subst hh; subst hn
      refine w_p (pc1 := 5) (st1 := .int 0 :: _) rfl rfl ?_
      refine w_p (pc1 := 6) (al1 := [(1, .int 0), (0, .ref 121)]) rfl rfl ?_
      exact Wd_up (by rw [hq]; exact Nat.le_refl _) (jl y c i _ 0 none (fun _ => rfl) h2 hc F1 (Nat.zero_le _))
set_option maxRecDepth 100000 in
theorem tst_lr (hE : E.1 = kd B n) (ih : Gr L xs B n m C0 t E f 6 y_57 17) (il : Lr L xs B n m C0 t E f 9 y_56 18 false) : Lr L xs B n m C0 t E (f + 1) 9 y_56 18 false := by
  intro s z C k u hu h F hk0
  unfold rd at h
  simp only [hE] at h
  by_cases hop : kd B n s.1 = 30
  · rw [if_pos hop] at h
    obtain ⟨y, h1, h⟩ := bnd_s h
    obtain ⟨x, h2, h⟩ := bnd_s h
    have hx := spd_s h1
    have hxq : (nxt y).2.2.1 = s.2.2.1 := hx.2.2
    have hnk : kd B n s.1 ≠ 1 ∧ kd B n s.1 ≠ 2 := by omega
    have hky : kd B n y.1 ≠ 1 ∧ kd B n y.1 ≠ 2 := by rw [hx.1]; exact hnk
    have h6 := tkS_600 F.1
    have hlt := tkS_lt F.1 hnk.1 hnk.2
    have hf := rd_fle _ _ _ _ h2
    have ho := fle_o (a := 0) (b := 0) h1 hf
    have hl := F.2.1
    have hul : x.2.1.length + 1 ≤ x.1 := by have := ho.2.1; omega
    have hxx : x.2.2.1 = s.2.2.1 := by rw [hf.2.2]; exact hxq
    have hk1 : k + 1 ≤ x.1 := by have := ho.2.2; omega
    have hu2 := hu rfl
    subst hu2
    have hk := hop
    refine w_p (pc1 := 7) rfl rfl ?_
    refine w_p (pc1 := 10) (st1 := .int 600 :: _) rfl rfl ?_
    refine w_f (a := 54) (b := 13) (bN_ge_f (a := k) (b := 600) (by omega) (by omega) (by omega)) rfl rfl ?_
    refine w_p (pc1 := 14) rfl rfl ?_
    refine w_m0 (pc1 := 17) rfl rfl (h_gC rfl rfl rfl rfl) rfl ?_
    refine w_m0 (pc1 := 20) (st1 := .ref (kd B n s.1) :: _) rfl rfl (h_gRs (j := 6) rfl rfl rfl rfl rfl (tkS_tok F.1)) rfl ?_
    refine w_m0 (pc1 := 23) (st1 := .ref 30 :: _) rfl rfl rfl rfl ?_
    refine w_an_y (A := 54) (Bn := 26) (ok_kd) (by decide) (hk) rfl rfl rfl ?_
    refine w_p (pc1 := 27) rfl rfl ?_
    refine w_ji (pc1 := 30) (vs := [.ref 121]) (rest := []) (rR (d := _) F h1) rfl rfl rfl (fun _ _ => rfl) rfl (by exact cl_v my_60 rfl rfl rfl (Nat.le_of_ble_eq_true rfl) rfl (MH_obj rfl rfl) rfl (by decide) rfl rfl) (by rfl) (Nat.le_of_ble_eq_true rfl) (Nat.le_of_ble_eq_true rfl) rfl (fun v h1 d1 hq => ?_) (fun _ _ _ e => e.elim)
    rcases hq with ⟨hv, ⟨C1, F1, hh⟩, hn⟩
    · subst hv; subst hh; subst hn
      refine w_p (pc1 := 31) rfl rfl ?_
      refine w_m0 (pc1 := 34) rfl rfl (h_gC rfl rfl rfl rfl) rfl ?_
      refine w_ji (pc1 := 37) (vs := [.ref 101]) (rest := []) (nR (d := _) F1 hky) rfl rfl rfl (fun _ _ => rfl) rfl (by exact cl_v my_21 rfl rfl rfl (Nat.le_of_ble_eq_true rfl) rfl (MH_obj rfl rfl) rfl (by decide) rfl rfl) (by rfl) (Nat.le_of_ble_eq_true rfl) (Nat.le_of_ble_eq_true rfl) rfl (fun v h1 d1 hq => ?_) (fun _ _ _ e => e.elim)
      rcases hq with ⟨hv, ⟨C2, F2, hh⟩, hn⟩
      · subst hv; subst hh; subst hn
        refine w_p (pc1 := 38) rfl rfl ?_
        refine w_ji (pc1 := 41) (vs := [.ref 121]) (rest := []) (Wd_up (by rw [hxq]; omega) (ih (nxt y) x _ h2 F2)) rfl rfl rfl (fun _ _ => rfl) rfl (by exact cl_v my_57 rfl rfl rfl (Nat.le_of_ble_eq_true rfl) rfl (MH_obj rfl rfl) rfl (by decide) rfl rfl) (by rfl) (Nat.le_of_ble_eq_true rfl) (Nat.le_of_ble_eq_true rfl) rfl (fun v h1 d1 hq => ?_) (fun _ _ _ e => e.elim)
        rcases hq with ⟨hv, ⟨C3, F3, hh⟩, hn⟩
        · subst hv; subst hh; subst hn
          refine w_p (pc1 := 42) rfl rfl ?_
          refine w_p (pc1 := 44) (st1 := .int 20 :: _) rfl rfl ?_
          refine w_p (pc1 := 45) (st1 := .int 0 :: _) rfl rfl ?_
          refine w_ji (pc1 := 48) (vs := [.ref 121, .int 20, .int 0]) (rest := []) (eR (d := _) F3 hul) rfl rfl rfl (fun _ _ => rfl) rfl (by exact cl_v my_61 rfl rfl rfl (Nat.le_of_ble_eq_true rfl) rfl (MH_obj rfl rfl) rfl (by decide) rfl rfl) (by rfl) (Nat.le_of_ble_eq_true rfl) (Nat.le_of_ble_eq_true rfl) rfl (fun v h1 d1 hq => ?_) (fun _ _ _ e => e.elim)
          rcases hq with ⟨hv, ⟨C4, F4, hh⟩, hn⟩
          · subst hv; subst hh; subst hn
            refine w_iinc (pc1 := 51) (u := nI (k)) (z := nI (k + 1)) (al1 := [(1, .int (nI (k + 1))), (0, .ref 121)]) rfl rfl rfl nK_1 rfl rfl ?_
            refine w_p (pc1 := 6) rfl rfl ?_
            exact Wd_up (by have e : (emt x 20 0).2.2.1 = s.2.2.1 := hxx; rw [e]; exact Nat.le_refl _) (il (emt x 20 0) z _ (k + 1) none (fun e => rfl) h F4 hk1)
  · rw [if_neg hop] at h
    cases h
    have h6 := tkS_600 F.1
    have hm := F.1.2.2.2.1
    have hu2 := hu rfl
    subst hu2
    by_cases h600 : k < 600
    · skip
      refine w_p (pc1 := 7) rfl rfl ?_
      refine w_p (pc1 := 10) (st1 := .int 600 :: _) rfl rfl ?_
      refine w_f (a := 54) (b := 13) (bN_ge_f (a := k) (b := 600) (by omega) (by omega) (by omega)) rfl rfl ?_
      refine w_p (pc1 := 14) rfl rfl ?_
      refine w_m0 (pc1 := 17) rfl rfl (h_gC rfl rfl rfl rfl) rfl ?_
      refine w_m0 (pc1 := 20) (st1 := .ref (kd B n s.1) :: _) rfl rfl (h_gRs (j := 6) rfl rfl rfl rfl rfl (tkS_tok F.1)) rfl ?_
      refine w_m0 (pc1 := 23) (st1 := .ref 30 :: _) rfl rfl rfl rfl ?_
      refine w_an_n (A := 54) (ok_kd) (by decide) (hop) rfl rfl ?_
      refine w_r rfl rfl rfl (fun _ _ => rfl) rfl ?_
      exact PF_i F
    · skip
      refine w_p (pc1 := 7) rfl rfl ?_
      refine w_p (pc1 := 10) (st1 := .int 600 :: _) rfl rfl ?_
      refine w_t (a := 54) (b := 13) (bN_ge_t (a := k) (b := 600) (by omega) (by omega) (by omega)) rfl rfl ?_
      refine w_r rfl rfl rfl (fun _ _ => rfl) rfl ?_
      exact PF_i F
set_option maxRecDepth 100000 in
theorem tst_le (hE : E.1 = kd B n) (ih : Gr L xs B n m C0 t E f 6 y_57 17) (il : Lr L xs B n m C0 t E f 9 y_56 18 false) (jh : Ge L xs B n m C0 t E f 6 y_57 17) (jl : Le L xs B n m C0 t E f 9 y_56 18 false) : Le L xs B n m C0 t E (f + 1) 9 y_56 18 false := by
  intro s c i C k u hu h hc F hk0
  unfold rd at h
  simp only [hE] at h
  by_cases hop : kd B n s.1 = 30
  · rw [if_pos hop] at h
    have hnk : kd B n s.1 ≠ 1 ∧ kd B n s.1 ≠ 2 := by omega
    have h6 := tkS_600 F.1
    have hlt := tkS_lt F.1 hnk.1 hnk.2
    have hu2 := hu rfl
    subst hu2
    have hk := hop
    rcases bnd_e h with h1 | ⟨y, h1, h⟩
    · skip
      refine w_p (pc1 := 7) rfl rfl ?_
      refine w_p (pc1 := 10) (st1 := .int 600 :: _) rfl rfl ?_
      refine w_f (a := 54) (b := 13) (bN_ge_f (a := k) (b := 600) (by omega) (by omega) (by omega)) rfl rfl ?_
      refine w_p (pc1 := 14) rfl rfl ?_
      refine w_m0 (pc1 := 17) rfl rfl (h_gC rfl rfl rfl rfl) rfl ?_
      refine w_m0 (pc1 := 20) (st1 := .ref (kd B n s.1) :: _) rfl rfl (h_gRs (j := 6) rfl rfl rfl rfl rfl (tkS_tok F.1)) rfl ?_
      refine w_m0 (pc1 := 23) (st1 := .ref 30 :: _) rfl rfl rfl rfl ?_
      refine w_an_y (A := 54) (Bn := 26) (ok_kd) (by decide) (hk) rfl rfl rfl ?_
      refine w_p (pc1 := 27) rfl rfl ?_
      refine w_ji (pc1 := 30) (vs := [.ref 121]) (rest := []) (rE (d := _) F h1) rfl rfl rfl (fun _ _ => rfl) rfl (by exact cl_v my_60 rfl rfl rfl (Nat.le_of_ble_eq_true rfl) rfl (MH_obj rfl rfl) rfl (by decide) rfl rfl) (by rfl) (Nat.le_of_ble_eq_true rfl) (Nat.le_of_ble_eq_true rfl) rfl (fun v h1 d1 hq => ?_) (fun a h1 d1 hq => ?_)
      · exact hq.elim
      · rcases hq with ⟨C9, f9, S9, ha, hh, hn⟩
        · subst ha; subst hh; subst hn
          refine Or.inl ⟨ch_new (by decide) rfl, ?_⟩
          exact ⟨C9, f9, S9, rfl, rfl, rfl⟩
    have hx := spd_s h1
    have hxq : (nxt y).2.2.1 = s.2.2.1 := hx.2.2
    have hky : kd B n y.1 ≠ 1 ∧ kd B n y.1 ≠ 2 := by rw [hx.1]; exact hnk
    rcases bnd_e h with h2 | ⟨x, h2, h⟩
    · skip
      refine w_p (pc1 := 7) rfl rfl ?_
      refine w_p (pc1 := 10) (st1 := .int 600 :: _) rfl rfl ?_
      refine w_f (a := 54) (b := 13) (bN_ge_f (a := k) (b := 600) (by omega) (by omega) (by omega)) rfl rfl ?_
      refine w_p (pc1 := 14) rfl rfl ?_
      refine w_m0 (pc1 := 17) rfl rfl (h_gC rfl rfl rfl rfl) rfl ?_
      refine w_m0 (pc1 := 20) (st1 := .ref (kd B n s.1) :: _) rfl rfl (h_gRs (j := 6) rfl rfl rfl rfl rfl (tkS_tok F.1)) rfl ?_
      refine w_m0 (pc1 := 23) (st1 := .ref 30 :: _) rfl rfl rfl rfl ?_
      refine w_an_y (A := 54) (Bn := 26) (ok_kd) (by decide) (hk) rfl rfl rfl ?_
      refine w_p (pc1 := 27) rfl rfl ?_
      refine w_ji (pc1 := 30) (vs := [.ref 121]) (rest := []) (rR (d := _) F h1) rfl rfl rfl (fun _ _ => rfl) rfl (by exact cl_v my_60 rfl rfl rfl (Nat.le_of_ble_eq_true rfl) rfl (MH_obj rfl rfl) rfl (by decide) rfl rfl) (by rfl) (Nat.le_of_ble_eq_true rfl) (Nat.le_of_ble_eq_true rfl) rfl (fun v h1 d1 hq => ?_) (fun _ _ _ e => e.elim)
      rcases hq with ⟨hv, ⟨C1, F1, hh⟩, hn⟩
      · subst hv; subst hh; subst hn
        refine w_p (pc1 := 31) rfl rfl ?_
        refine w_m0 (pc1 := 34) rfl rfl (h_gC rfl rfl rfl rfl) rfl ?_
        refine w_ji (pc1 := 37) (vs := [.ref 101]) (rest := []) (nR (d := _) F1 hky) rfl rfl rfl (fun _ _ => rfl) rfl (by exact cl_v my_21 rfl rfl rfl (Nat.le_of_ble_eq_true rfl) rfl (MH_obj rfl rfl) rfl (by decide) rfl rfl) (by rfl) (Nat.le_of_ble_eq_true rfl) (Nat.le_of_ble_eq_true rfl) rfl (fun v h1 d1 hq => ?_) (fun _ _ _ e => e.elim)
        rcases hq with ⟨hv, ⟨C2, F2, hh⟩, hn⟩
        · subst hv; subst hh; subst hn
          refine w_p (pc1 := 38) rfl rfl ?_
          refine w_ji (pc1 := 41) (vs := [.ref 121]) (rest := []) (Wd_up (by rw [hxq]; omega) (jh (nxt y) c i _ h2 hc F2)) rfl rfl rfl (fun _ _ => rfl) rfl (by exact cl_v my_57 rfl rfl rfl (Nat.le_of_ble_eq_true rfl) rfl (MH_obj rfl rfl) rfl (by decide) rfl rfl) (by rfl) (Nat.le_of_ble_eq_true rfl) (Nat.le_of_ble_eq_true rfl) rfl (fun v h1 d1 hq => ?_) (fun a h1 d1 hq => ?_)
          · exact hq.elim
          · rcases hq with ⟨C9, f9, S9, ha, hh, hn⟩
            · subst ha; subst hh; subst hn
              refine Or.inl ⟨ch_new (by decide) rfl, ?_⟩
              exact ⟨C9, f9, S9, rfl, rfl, rfl⟩
    have hf := rd_fle _ _ _ _ h2
    have ho := fle_o (a := 0) (b := 0) h1 hf
    have hl := F.2.1
    have hul : x.2.1.length + 1 ≤ x.1 := by have := ho.2.1; omega
    have hxx : x.2.2.1 = s.2.2.1 := by rw [hf.2.2]; exact hxq
    have hk1 : k + 1 ≤ x.1 := by have := ho.2.2; omega
    refine w_p (pc1 := 7) rfl rfl ?_
    refine w_p (pc1 := 10) (st1 := .int 600 :: _) rfl rfl ?_
    refine w_f (a := 54) (b := 13) (bN_ge_f (a := k) (b := 600) (by omega) (by omega) (by omega)) rfl rfl ?_
    refine w_p (pc1 := 14) rfl rfl ?_
    refine w_m0 (pc1 := 17) rfl rfl (h_gC rfl rfl rfl rfl) rfl ?_
    refine w_m0 (pc1 := 20) (st1 := .ref (kd B n s.1) :: _) rfl rfl (h_gRs (j := 6) rfl rfl rfl rfl rfl (tkS_tok F.1)) rfl ?_
    refine w_m0 (pc1 := 23) (st1 := .ref 30 :: _) rfl rfl rfl rfl ?_
    refine w_an_y (A := 54) (Bn := 26) (ok_kd) (by decide) (hk) rfl rfl rfl ?_
    refine w_p (pc1 := 27) rfl rfl ?_
    refine w_ji (pc1 := 30) (vs := [.ref 121]) (rest := []) (rR (d := _) F h1) rfl rfl rfl (fun _ _ => rfl) rfl (by exact cl_v my_60 rfl rfl rfl (Nat.le_of_ble_eq_true rfl) rfl (MH_obj rfl rfl) rfl (by decide) rfl rfl) (by rfl) (Nat.le_of_ble_eq_true rfl) (Nat.le_of_ble_eq_true rfl) rfl (fun v h1 d1 hq => ?_) (fun _ _ _ e => e.elim)
    rcases hq with ⟨hv, ⟨C1, F1, hh⟩, hn⟩
    · subst hv; subst hh; subst hn
      refine w_p (pc1 := 31) rfl rfl ?_
      refine w_m0 (pc1 := 34) rfl rfl (h_gC rfl rfl rfl rfl) rfl ?_
      refine w_ji (pc1 := 37) (vs := [.ref 101]) (rest := []) (nR (d := _) F1 hky) rfl rfl rfl (fun _ _ => rfl) rfl (by exact cl_v my_21 rfl rfl rfl (Nat.le_of_ble_eq_true rfl) rfl (MH_obj rfl rfl) rfl (by decide) rfl rfl) (by rfl) (Nat.le_of_ble_eq_true rfl) (Nat.le_of_ble_eq_true rfl) rfl (fun v h1 d1 hq => ?_) (fun _ _ _ e => e.elim)
      rcases hq with ⟨hv, ⟨C2, F2, hh⟩, hn⟩
      · subst hv; subst hh; subst hn
        refine w_p (pc1 := 38) rfl rfl ?_
        refine w_ji (pc1 := 41) (vs := [.ref 121]) (rest := []) (Wd_up (by rw [hxq]; omega) (ih (nxt y) x _ h2 F2)) rfl rfl rfl (fun _ _ => rfl) rfl (by exact cl_v my_57 rfl rfl rfl (Nat.le_of_ble_eq_true rfl) rfl (MH_obj rfl rfl) rfl (by decide) rfl rfl) (by rfl) (Nat.le_of_ble_eq_true rfl) (Nat.le_of_ble_eq_true rfl) rfl (fun v h1 d1 hq => ?_) (fun _ _ _ e => e.elim)
        rcases hq with ⟨hv, ⟨C3, F3, hh⟩, hn⟩
        · subst hv; subst hh; subst hn
          refine w_p (pc1 := 42) rfl rfl ?_
          refine w_p (pc1 := 44) (st1 := .int 20 :: _) rfl rfl ?_
          refine w_p (pc1 := 45) (st1 := .int 0 :: _) rfl rfl ?_
          refine w_ji (pc1 := 48) (vs := [.ref 121, .int 20, .int 0]) (rest := []) (eR (d := _) F3 hul) rfl rfl rfl (fun _ _ => rfl) rfl (by exact cl_v my_61 rfl rfl rfl (Nat.le_of_ble_eq_true rfl) rfl (MH_obj rfl rfl) rfl (by decide) rfl rfl) (by rfl) (Nat.le_of_ble_eq_true rfl) (Nat.le_of_ble_eq_true rfl) rfl (fun v h1 d1 hq => ?_) (fun _ _ _ e => e.elim)
          rcases hq with ⟨hv, ⟨C4, F4, hh⟩, hn⟩
          · subst hv; subst hh; subst hn
            refine w_iinc (pc1 := 51) (u := nI (k)) (z := nI (k + 1)) (al1 := [(1, .int (nI (k + 1))), (0, .ref 121)]) rfl rfl rfl nK_1 rfl rfl ?_
            refine w_p (pc1 := 6) rfl rfl ?_
            exact Wd_up (by have e : (emt x 20 0).2.2.1 = s.2.2.1 := hxx; rw [e]; exact Nat.le_refl _) (jl (emt x 20 0) c i _ (k + 1) none (fun e => rfl) h hc F4 hk1)
  · rw [if_neg hop] at h
    cases h
set_option maxRecDepth 100000 in
theorem tst_r (ih : Gr L xs B n m C0 t E f 6 y_57 17) (il : Lr L xs B n m C0 t E f 9 y_56 18 false) : Gr L xs B n m C0 t E (f + 1) 8 y_56 18 := by
  intro s z C h F
  unfold rd at h
  simp only at h
  obtain ⟨y, h1, h2⟩ := bnd_s h
  have hq := (rd_fle _ _ _ _ h1).2.2
  refine w_p (pc1 := 1) rfl rfl ?_
  refine w_ji (pc1 := 4) (vs := [.ref 121]) (rest := []) (ih s y _ h1 F) rfl rfl rfl (fun _ _ => rfl) rfl (by exact cl_v my_57 rfl rfl rfl (Nat.le_of_ble_eq_true rfl) rfl (MH_obj rfl rfl) rfl (by decide) rfl rfl) (by rfl) (Nat.le_of_ble_eq_true rfl) (Nat.le_of_ble_eq_true rfl) rfl (fun v h1 d1 hq => ?_) (fun _ _ _ e => e.elim)
  rcases hq with ⟨hv, ⟨C1, F1, hh⟩, hn⟩
  · subst hv; subst hh; subst hn
    refine w_p (pc1 := 5) (st1 := .int 0 :: _) rfl rfl ?_
    refine w_p (pc1 := 6) (al1 := [(1, .int 0), (0, .ref 121)]) rfl rfl ?_
    exact Wd_up (by rw [hq]; exact Nat.le_refl _) (il y z _ 0 none (fun _ => rfl) h2 F1 (Nat.zero_le _))
set_option maxRecDepth 100000 in
theorem tst_e (ih : Gr L xs B n m C0 t E f 6 y_57 17) (jh : Ge L xs B n m C0 t E f 6 y_57 17) (jl : Le L xs B n m C0 t E f 9 y_56 18 false) : Ge L xs B n m C0 t E (f + 1) 8 y_56 18 := by
  intro s c i C h hc F
  unfold rd at h
  simp only at h
  rcases bnd_e h with h1 | ⟨y, h1, h2⟩
  · skip
    refine w_p (pc1 := 1) rfl rfl ?_
    refine w_ji (pc1 := 4) (vs := [.ref 121]) (rest := []) (jh s c i _ h1 hc F) rfl rfl rfl (fun _ _ => rfl) rfl (by exact cl_v my_57 rfl rfl rfl (Nat.le_of_ble_eq_true rfl) rfl (MH_obj rfl rfl) rfl (by decide) rfl rfl) (by rfl) (Nat.le_of_ble_eq_true rfl) (Nat.le_of_ble_eq_true rfl) rfl (fun v h1 d1 hq => ?_) (fun a h1 d1 hq => ?_)
    · exact hq.elim
    · rcases hq with ⟨C9, f9, S9, ha, hh, hn⟩
      · subst ha; subst hh; subst hn
        refine Or.inl ⟨ch_new (by decide) rfl, ?_⟩
        exact ⟨C9, f9, S9, rfl, rfl, rfl⟩
  · have hq := (rd_fle _ _ _ _ h1).2.2
    refine w_p (pc1 := 1) rfl rfl ?_
    refine w_ji (pc1 := 4) (vs := [.ref 121]) (rest := []) (ih s y _ h1 F) rfl rfl rfl (fun _ _ => rfl) rfl (by exact cl_v my_57 rfl rfl rfl (Nat.le_of_ble_eq_true rfl) rfl (MH_obj rfl rfl) rfl (by decide) rfl rfl) (by rfl) (Nat.le_of_ble_eq_true rfl) (Nat.le_of_ble_eq_true rfl) rfl (fun v h1 d1 hq => ?_) (fun _ _ _ e => e.elim)
    rcases hq with ⟨hv, ⟨C1, F1, hh⟩, hn⟩
    · subst hv; subst hh; subst hn
      refine w_p (pc1 := 5) (st1 := .int 0 :: _) rfl rfl ?_
      refine w_p (pc1 := 6) (al1 := [(1, .int 0), (0, .ref 121)]) rfl rfl ?_
      exact Wd_up (by rw [hq]; exact Nat.le_refl _) (jl y c i _ 0 none (fun _ => rfl) h2 hc F1 (Nat.zero_le _))
end LOP
