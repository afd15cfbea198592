
/-! ONE SIDE: short statements are read -/
def rThr (K : tv2) (x : Int32) (i : Nat) : pz_T (Unit × Nat) := if K.1 i = 3 then (if x = -1 then .inl (4, i) else .inr ((), i + 1)) else .inl (2, i)
def rDrp (K : tv2) (sc : sc_T) (tr : Nat → Option tr_T) (i : Nat) (nl : Option Nat) : pz_T ((Nat × Int32) × Nat × Option Nat) := if K.1 (i + 1) = 37 then pb (rTab K sc (i + 1 + 1)) (fun b => .inr ((37, nI b.1), b.2, nl)) else if K.1 (i + 1) = 39 then pb (rThr K (trF tr (K.2 (i + 1 + 1))) (i + 1 + 1)) (fun u => .inr ((39, trF tr (K.2 (i + 1 + 1))), u.2, nl)) else .inl (2, i + 1)
def mkF (mk : Nat × (Nat → Int64)) (v : Int64) : Int32 := fnd (fun j => decide (mk.2 j = v)) mk.1 0
def rBck (K : tv2) (mk : Nat × (Nat → Int64)) (i : Nat) (nl : Option Nat) : pz_T (Int32 × Nat × Option Nat) := if K.1 (i + 1) = 38 then pb (rThr K (mkF mk (K.2 (i + 1 + 1))) (i + 1 + 1)) (fun u => .inr (mkF mk (K.2 (i + 1 + 1)), u.2, nl)) else .inr (-1, i + 1, nl)
def rMrk (K : tv2) (mk : Nat × (Nat → Int64)) (i : Nat) (nl : Option Nat) : pz_T (Int64 × Nat × Option Nat) := if K.1 (i + 1) = 3 then (if mkF mk (K.2 (i + 1)) = -1 ∧ 6 ≤ mk.1 then .inl (6, i + 1) else .inr (K.2 (i + 1), i + 1 + 1, nl)) else .inl (2, i + 1)
section SHO
variable {L : Nat} {xs : Nat → Int32} {B : Nat → Nat} {n m : Nat} {C C' C0 C1 : co_T} {t t0 t1 : ab_H} {d sl sl0 sl1 i i0 i1 j b e ti k k0 kc ks w c : Nat} {sc : sc_T} {row : Option Nat} {tg : Option (Nat × Nat)} {nl : Option Nat} {kd0 tb0 : Int32} {P : Option Value → ab_H → Nat → Prop} {X : Nat → ab_H → Nat → Prop} {cs : List Nat} {ss : List (Option (List op_T))} {E : fe_T} {tr : Nat → Option tr_T} {mk : Nat × (Nat → Int64)}
def MKK (C : co_T) (mk : Nat × (Nat → Int64)) : Prop := C.1 6 12 = nI mk.1 ∧ mk.1 ≤ 6 ∧ ∀ j, j < mk.1 → C.2.1 19 j = mk.2 j
set_option maxRecDepth 100000 in
theorem mkF_K (M : MKK C mk) (v : Int64) : fnd (fun i => decide (C.2.1 19 i = v)) mk.1 0 = mkF mk v := fnd_c _ 0 (fun j _ hj => by rw [M.2.2 j (by omega)])
set_option maxRecDepth 100000 in
theorem MKK_D (h : frD C C') (M : MKK C mk) : MKK C' mk := ⟨(h.1 6 12 (by omega) (by omega) (by omega) (by omega) (by omega)).trans M.1, M.2.1, fun j hj => (h.2.1 19 j (by omega) (by omega)).trans (M.2.2 j hj)⟩
set_option maxRecDepth 100000 in
theorem frD_J {C : co_T} {j : Nat} {v : Int64} : frD C (sJ C 20 j v) := ⟨fun _ _ _ _ _ _ _ => rfl, fun k q a b => by rw [sJ_2, if_neg (by omega)], fun _ _ _ _ => rfl⟩
set_option maxRecDepth 100000 in
theorem tkS_D20 (S : tkS B n m C i) (h1 : ∀ k j, k ≠ 20 → C'.1 k j = C.1 k j) (h2 : ∀ k j, k ≠ 20 → C'.2.1 k j = C.2.1 k j) (h3 : ∀ k j, k ≠ 20 → C'.2.2 k j = C.2.2 k j) : tkS B n m C' i := tkS_g S (fun k j h => h1 k j (by omega)) (fun k j h => h2 k j (by omega)) (fun k j h => h3 k j (by omega))
set_option maxRecDepth 100000 in
theorem rThr_s {K : tv2} {x : Int32} {i i1 : Nat} {u : Unit} (h : rThr K x i = .inr (u, i1)) : i1 = i + 1 := by
  unfold rThr at h
  split at h
  · split at h
    · cases h
    · cases h; rfl
  · cases h
set_option maxRecDepth 100000 in
theorem rThr_j {K : tv2} {x : Int32} {i j : Nat} {c : Int32} (h : rThr K x i = .inl (c, j)) : j = i := by
  unfold rThr at h
  split at h
  · split at h
    · cases h; rfl
    · cases h
  · cases h; rfl
set_option maxRecDepth 100000 in
theorem m_90 {x : Int32} (S : tkS B n m C i) (hx : C.1 20 5 = x) : Wd L xs (d + 8) y_90 (0, [(0, .ref 120)], [], MH C t, sl) (PN B n m C t sl (rThr (tkP B n) x i) (fun _ v => none = v)) (XN B n m C t sl (rThr (tkP B n) x i)) := by
  by_cases h3 : kd B n i = 3
  · by_cases hq : x = -1
    · have er : rThr (tkP B n) x i = .inl (4, i) := (if_pos h3).trans (if_pos hq)
      refine w_p (pc1 := 1) rfl rfl ?_
      refine w_m0 (pc1 := 4) rfl rfl (h_gC rfl rfl rfl rfl) rfl ?_
      refine w_m0 (pc1 := 7) (st1 := .ref (kd B n i) :: _) rfl rfl (h_gRs (j := 6) rfl rfl rfl rfl rfl (tkS_tok S)) rfl ?_
      refine w_m0 (pc1 := 10) (st1 := .ref 3 :: _) rfl rfl rfl rfl ?_
      refine w_an_y (A := 29) (Bn := 13) (ok_kd) (by decide) (h3) rfl rfl rfl ?_
      refine w_p (pc1 := 14) rfl rfl ?_
      refine w_m0 (pc1 := 17) (st1 := .int (x) :: _) rfl rfl (h_gIe (j := 5) rfl rfl rfl rfl rfl (hx)) rfl ?_
      refine w_p (pc1 := 18) (st1 := .int (-1) :: _) rfl rfl ?_
      refine w_f (a := 29) (b := 21) (cb_ne_f (by exact hq)) rfl rfl ?_
      refine w_p (pc1 := 22) rfl rfl ?_
      refine w_m0 (pc1 := 25) rfl rfl (h_gC rfl rfl rfl rfl) rfl ?_
      refine w_p (pc1 := 26) (st1 := .int 4 :: _) rfl rfl ?_
      refine w_ji (pc1 := 29) (vs := [.ref 101, .int 4]) (rest := []) (m_31 (d := d + 1) (sl := 0) (c := 4) S) rfl rfl rfl (fun _ _ => rfl) rfl (by exact cl_v my_31 rfl rfl rfl (Nat.le_of_ble_eq_true rfl) rfl (MH_obj rfl rfl) rfl (by decide) rfl rfl) (by rfl) (Nat.le_of_ble_eq_true rfl) (Nat.le_of_ble_eq_true rfl) rfl (fun v h1 d1 hq => ?_) (fun a h1 d1 hq => ?_)
      · exact hq.elim
      · rcases hq with ⟨ha, hh, hn⟩
        · subst ha; subst hh; subst hn
          refine Or.inl ⟨ch_new (by decide) rfl, ?_⟩
          refine ⟨4, i, ⟨er, S⟩, rfl, ?_, rfl⟩
          with_reducible rfl
    · have er : rThr (tkP B n) x i = .inr ((), i + 1) := (if_pos h3).trans (if_neg hq)
      refine w_p (pc1 := 1) rfl rfl ?_
      refine w_m0 (pc1 := 4) rfl rfl (h_gC rfl rfl rfl rfl) rfl ?_
      refine w_m0 (pc1 := 7) (st1 := .ref (kd B n i) :: _) rfl rfl (h_gRs (j := 6) rfl rfl rfl rfl rfl (tkS_tok S)) rfl ?_
      refine w_m0 (pc1 := 10) (st1 := .ref 3 :: _) rfl rfl rfl rfl ?_
      refine w_an_y (A := 29) (Bn := 13) (ok_kd) (by decide) (h3) rfl rfl rfl ?_
      refine w_p (pc1 := 14) rfl rfl ?_
      refine w_m0 (pc1 := 17) (st1 := .int (x) :: _) rfl rfl (h_gIe (j := 5) rfl rfl rfl rfl rfl (hx)) rfl ?_
      refine w_p (pc1 := 18) (st1 := .int (-1) :: _) rfl rfl ?_
      refine w_t (a := 29) (b := 21) (cb_ne_t (by exact hq)) rfl rfl ?_
      refine w_p (pc1 := 30) rfl rfl ?_
      refine w_m0 (pc1 := 33) rfl rfl (h_gC rfl rfl rfl rfl) rfl ?_
      refine w_m0 (pc1 := 36) (st1 := .ref 3 :: _) rfl rfl rfl rfl ?_
      refine w_je (pc1 := 39) (vs := [.ref 101, .ref 3]) (rest := []) (st1 := []) (m_38y (d := d + 6) (sl := 0) S (by decide) h3 (by decide) (by decide)) rfl rfl rfl (fun _ _ => rfl) rfl (by exact cl_v my_38 rfl rfl rfl (Nat.le_of_ble_eq_true rfl) rfl (MH_obj rfl rfl) rfl (by decide) rfl rfl) (by rfl) (Nat.le_of_ble_eq_true rfl) (Nat.le_of_ble_eq_true rfl) rfl (by rfl) ?_
      refine w_r rfl rfl rfl (fun _ _ => rfl) rfl ?_
      refine ⟨(), i + 1, nxT B n C i, ⟨er, rfl, nxT_S S (by rw [h3]; decide) (by rw [h3]; decide), nxT_fr⟩, ?_, rfl⟩
      with_reducible rfl
  · have er : rThr (tkP B n) x i = .inl (2, i) := if_neg h3
    refine w_p (pc1 := 1) rfl rfl ?_
    refine w_m0 (pc1 := 4) rfl rfl (h_gC rfl rfl rfl rfl) rfl ?_
    refine w_m0 (pc1 := 7) (st1 := .ref (kd B n i) :: _) rfl rfl (h_gRs (j := 6) rfl rfl rfl rfl rfl (tkS_tok S)) rfl ?_
    refine w_m0 (pc1 := 10) (st1 := .ref 3 :: _) rfl rfl rfl rfl ?_
    refine w_an_n (A := 29) (ok_kd) (by decide) (h3) rfl rfl ?_
    refine w_p (pc1 := 30) rfl rfl ?_
    refine w_m0 (pc1 := 33) rfl rfl (h_gC rfl rfl rfl rfl) rfl ?_
    refine w_m0 (pc1 := 36) (st1 := .ref 3 :: _) rfl rfl rfl rfl ?_
    refine w_ji (pc1 := 39) (vs := [.ref 101, .ref 3]) (rest := []) (m_38n (d := d) (sl := 0) S (by decide) h3) rfl rfl rfl (fun _ _ => rfl) rfl (by exact cl_v my_38 rfl rfl rfl (Nat.le_of_ble_eq_true rfl) rfl (MH_obj rfl rfl) rfl (by decide) rfl rfl) (by rfl) (Nat.le_of_ble_eq_true rfl) (Nat.le_of_ble_eq_true rfl) rfl (fun v h1 d1 hq => ?_) (fun a h1 d1 hq => ?_)
    · exact hq.elim
    · rcases hq with ⟨ha, hh, hn⟩
      · subst ha; subst hh; subst hn
        refine Or.inl ⟨ch_new (by decide) rfl, ?_⟩
        refine ⟨2, i, ⟨er, S⟩, rfl, ?_, rfl⟩
        with_reducible rfl
abbrev QDr : Nat × Int32 → co_T → ab_H → Prop := fun a C' _ => C'.2.2 20 4 = some a.1 ∧ C'.1 20 5 = a.2
set_option maxRecDepth 100000 in
theorem m_89 (S : tkS B n m C i) (h1 : kd B n i ≠ 1) (h2 : kd B n i ≠ 2) (hl : lfK (C.1 21 6) nl) (hS : SCK C sc) (hT : TGK C t tr) : Wd L xs (d + 9) y_89 (0, [(0, .ref 120)], [], MH C t, sl) (PV B n m C t i sl (rDrp (tkP B n) sc tr i nl) QDr) (XD B n C t i sl (rDrp (tkP B n) sc tr i nl)) := by
  have S1 := nxT_S S h1 h2
  have f1 := nxT_fr (B := B) (n := n) (C := C) (i := i)
  have f2 : frD C (sQ (nxT B n C i) 20 4 (some (kd B n (i + 1)))) := frD_t (frD_N f1) frD_Q
  have S2 : tkS B n m (sQ (nxT B n C i) 20 4 (some (kd B n (i + 1)))) (i + 1) := tkS_D20 S1 (fun _ _ _ => rfl) (fun _ _ _ => rfl) (fun k j h => by rw [sQ_3, if_neg (by omega)])
  have v2 : (sQ (nxT B n C i) 20 4 (some (kd B n (i + 1)))).2.2 20 3 = C.2.2 20 3 := by rw [sQ_3, if_neg (by omega)]; exact f1.2.2 20 3 (by omega)
  have l2 : lfK ((sQ (nxT B n C i) 20 4 (some (kd B n (i + 1)))).1 21 6) nl := by rw [sQ_1, f1.1 21 6 (by omega)]; exact hl
  have n2 : (sQ (nxT B n C i) 20 4 (some (kd B n (i + 1)))).2.2 20 4 = some (kd B n (i + 1)) := by rw [sQ_3, if_pos ⟨rfl, rfl⟩]
  generalize hC2 : sQ (nxT B n C i) 20 4 (some (kd B n (i + 1))) = C2 at f2 S2 v2 l2 n2
  by_cases h37 : kd B n (i + 1) = 37
  · have er : rDrp (tkP B n) sc tr i nl = pb (rTab (tkP B n) sc (i + 1 + 1)) (fun b => .inr ((37, nI b.1), b.2, nl)) := if_pos h37
    have S3 := nxT_S S2 (by rw [h37]; decide) (by rw [h37]; decide)
    have f3 := nxT_fr (B := B) (n := n) (C := C2) (i := i + 1)
    have hS3 := SCK_D hS (frD_t f2 (frD_N f3))
    refine w_p (pc1 := 1) rfl rfl ?_
    refine w_m0 (pc1 := 4) rfl rfl (h_gC rfl rfl rfl rfl) rfl ?_
    refine w_je (pc1 := 7) (vs := [.ref 101]) (rest := []) (st1 := []) (m_21s (d := d + 8) (sl := 0) S h1 h2) rfl rfl rfl (fun _ _ => rfl) rfl (by exact cl_v my_21 rfl rfl rfl (Nat.le_of_ble_eq_true rfl) rfl (MH_obj rfl rfl) rfl (by decide) rfl rfl) (by rfl) (Nat.le_of_ble_eq_true rfl) (Nat.le_of_ble_eq_true rfl) rfl (by rfl) ?_
    refine w_p (pc1 := 8) rfl rfl ?_
    refine w_p (pc1 := 9) rfl rfl ?_
    refine w_m0 (pc1 := 12) rfl rfl (h_gC rfl rfl rfl rfl) rfl ?_
    refine w_m0 (pc1 := 15) (st1 := .ref (kd B n (i + 1)) :: _) rfl rfl (h_gRs (j := 6) rfl rfl rfl rfl rfl (tkS_tok S1)) rfl ?_
    refine w_m0 (pc1 := 18) rfl rfl (h_pR (j := 4) (v := some (kd B n (i + 1))) rfl rfl rfl rfl rfl rfl rfl ⟨rfl, rfl⟩ rfl) rfl ?_
    rw [hC2]
    refine w_p (pc1 := 19) rfl rfl ?_
    refine w_m0 (pc1 := 22) rfl rfl (h_gC rfl rfl rfl rfl) rfl ?_
    refine w_m0 (pc1 := 25) (st1 := .ref 37 :: _) rfl rfl rfl rfl ?_
    refine w_je (pc1 := 28) (vs := [.ref 101, .ref 37]) (rest := []) (st1 := [.int 1]) (m_44y (d := d + 7) (sl := 0) S2 (by decide) h37 (by decide) (by decide)) rfl rfl rfl (fun _ _ => rfl) rfl (by exact cl_v my_44 rfl rfl rfl (Nat.le_of_ble_eq_true rfl) rfl (MH_obj rfl rfl) rfl (by decide) rfl rfl) (by rfl) (Nat.le_of_ble_eq_true rfl) (Nat.le_of_ble_eq_true rfl) rfl (by rfl) ?_
    refine w_f (a := 40) (b := 31) rfl rfl rfl ?_
    refine w_p (pc1 := 32) rfl rfl ?_
    refine w_p (pc1 := 33) rfl rfl ?_
    refine w_ji (pc1 := 36) (vs := [.ref 120]) (rest := [.ref 120]) (m_74 (d := d + 1) (sl := 0) S3 hS3) rfl rfl rfl (fun _ _ => rfl) rfl (by exact cl_v my_74 rfl rfl rfl (Nat.le_of_ble_eq_true rfl) rfl (MH_obj rfl rfl) rfl (by decide) rfl rfl) (by rfl) (Nat.le_of_ble_eq_true rfl) (Nat.le_of_ble_eq_true rfl) rfl (fun v h1 d1 hq => ?_) (fun a h1 d1 hq => ?_)
    · obtain ⟨b, i2, C3, ⟨s1, hv, s3, s4⟩, hh, hn⟩ := hq
      subst hv; subst hh; subst hn
      obtain ⟨rfl, hb, hbt⟩ := rTab_i s1
      refine w_m0 (pc1 := 39) rfl rfl (h_pI (j := 5) rfl rfl rfl rfl rfl rfl rfl ⟨rfl, rfl⟩ rfl) rfl ?_
      refine w_r rfl rfl rfl (fun _ _ => rfl) rfl ?_
      have f4 := frN_t' f3 s4
      refine ⟨(37, nI b), i + 1 + 1 + 1, nl, (sI C3 20 5 (nI b)), t, ⟨er.trans (pb_r s1), rfl, ⟨(f4.2.2 20 4 (by omega)).trans (by rw [n2, h37]), by rw [sI_1, if_pos ⟨rfl, rfl⟩]⟩, ⟨tkS_F s3 (fun k j h => by rw [sI_1, if_neg (by omega)]) rfl, by rw [sI_1, if_neg (by omega), f4.1 21 6 (by omega)]; exact l2⟩, ⟨frD_t f2 (frD_t (frD_N f4) (frD_I (by omega))), (f4.2.2 20 3 (by omega)).trans v2⟩, tlE_r, by omega, by omega⟩, ?_, by omega⟩
      with_reducible rfl
    · rcases hq with ⟨c, j, ⟨x1, x2⟩, ha, hh, hn⟩
      · subst ha; subst hh; subst hn
        refine Or.inl ⟨ch_new (by decide) rfl, ?_⟩
        have := rTab_j x1
        refine ⟨c, j, _, t, sl + 0, ⟨er.trans (pb_l x1), flt_rf.1, frD_t (frD_t f2 (frD_N f3)) flt_rf.2, ⟨tlE_r, by omega, by omega⟩, by omega⟩, rfl, ?_, by omega⟩
        with_reducible rfl
  · by_cases h39 : kd B n (i + 1) = 39
    · have er : rDrp (tkP B n) sc tr i nl = pb (rThr (tkP B n) (trF tr (vl B n (i + 1 + 1))) (i + 1 + 1)) (fun u => .inr ((39, trF tr (vl B n (i + 1 + 1))), u.2, nl)) := (if_neg h37).trans (if_pos h39)
      have S3 := nxT_S S2 (by rw [h39]; decide) (by rw [h39]; decide)
      have f3 := nxT_fr (B := B) (n := n) (C := C2) (i := i + 1)
      have hT3 := TGK_D (frD_t f2 (frD_N f3)) hT
      have S4 : tkS B n m (sI (nxT B n C2 (i + 1)) 20 5 (trF tr (vl B n (i + 1 + 1)))) (i + 1 + 1) := tkS_F S3 (fun k j h => by rw [sI_1, if_neg (by omega)]) rfl
      have f5 : frD C (sI (nxT B n C2 (i + 1)) 20 5 (trF tr (vl B n (i + 1 + 1)))) := frD_t f2 (frD_t (frD_N f3) (frD_I (by omega)))
      refine w_p (pc1 := 1) rfl rfl ?_
      refine w_m0 (pc1 := 4) rfl rfl (h_gC rfl rfl rfl rfl) rfl ?_
      refine w_je (pc1 := 7) (vs := [.ref 101]) (rest := []) (st1 := []) (m_21s (d := d + 8) (sl := 0) S h1 h2) rfl rfl rfl (fun _ _ => rfl) rfl (by exact cl_v my_21 rfl rfl rfl (Nat.le_of_ble_eq_true rfl) rfl (MH_obj rfl rfl) rfl (by decide) rfl rfl) (by rfl) (Nat.le_of_ble_eq_true rfl) (Nat.le_of_ble_eq_true rfl) rfl (by rfl) ?_
      refine w_p (pc1 := 8) rfl rfl ?_
      refine w_p (pc1 := 9) rfl rfl ?_
      refine w_m0 (pc1 := 12) rfl rfl (h_gC rfl rfl rfl rfl) rfl ?_
      refine w_m0 (pc1 := 15) (st1 := .ref (kd B n (i + 1)) :: _) rfl rfl (h_gRs (j := 6) rfl rfl rfl rfl rfl (tkS_tok S1)) rfl ?_
      refine w_m0 (pc1 := 18) rfl rfl (h_pR (j := 4) (v := some (kd B n (i + 1))) rfl rfl rfl rfl rfl rfl rfl ⟨rfl, rfl⟩ rfl) rfl ?_
      rw [hC2]
      refine w_p (pc1 := 19) rfl rfl ?_
      refine w_m0 (pc1 := 22) rfl rfl (h_gC rfl rfl rfl rfl) rfl ?_
      refine w_m0 (pc1 := 25) (st1 := .ref 37 :: _) rfl rfl rfl rfl ?_
      refine w_je (pc1 := 28) (vs := [.ref 101, .ref 37]) (rest := []) (st1 := [.int 0]) (m_44n (d := d + 8) (sl := 0) S2 (by decide) h37) rfl rfl rfl (fun _ _ => rfl) rfl (by exact cl_v my_44 rfl rfl rfl (Nat.le_of_ble_eq_true rfl) rfl (MH_obj rfl rfl) rfl (by decide) rfl rfl) (by rfl) (Nat.le_of_ble_eq_true rfl) (Nat.le_of_ble_eq_true rfl) rfl (by rfl) ?_
      refine w_t (a := 40) (b := 31) rfl rfl rfl ?_
      refine w_p (pc1 := 41) rfl rfl ?_
      refine w_m0 (pc1 := 44) rfl rfl (h_gC rfl rfl rfl rfl) rfl ?_
      refine w_m0 (pc1 := 47) (st1 := .ref 39 :: _) rfl rfl rfl rfl ?_
      refine w_je (pc1 := 50) (vs := [.ref 101, .ref 39]) (rest := []) (st1 := []) (m_38y (d := d + 7) (sl := 0) S2 (by decide) h39 (by decide) (by decide)) rfl rfl rfl (fun _ _ => rfl) rfl (by exact cl_v my_38 rfl rfl rfl (Nat.le_of_ble_eq_true rfl) rfl (MH_obj rfl rfl) rfl (by decide) rfl rfl) (by rfl) (Nat.le_of_ble_eq_true rfl) (Nat.le_of_ble_eq_true rfl) rfl (by rfl) ?_
      refine w_p (pc1 := 51) rfl rfl ?_
      refine w_p (pc1 := 52) rfl rfl ?_
      refine w_m0 (pc1 := 55) rfl rfl (h_gC rfl rfl rfl rfl) rfl ?_
      refine w_p (pc1 := 56) rfl rfl ?_
      refine w_m0 (pc1 := 59) rfl rfl (h_gC rfl rfl rfl rfl) rfl ?_
      refine w_m0 (pc1 := 62) (st1 := .long (vl B n (i + 1 + 1)) :: _) rfl rfl (h_gJe (j := 8) rfl rfl rfl rfl rfl (S3.2.2.2.2.2.2.2)) rfl ?_
      refine w_je (pc1 := 65) (vs := [.ref 106, .long (vl B n (i + 1 + 1))]) (rest := [.ref 120]) (st1 := [.int (trF tr (vl B n (i + 1 + 1))), .ref 120]) (m_34 (d := d + 8) (sl := 0) hT3) rfl rfl rfl (fun _ _ => rfl) rfl (by exact cl_v my_34 rfl rfl rfl (Nat.le_of_ble_eq_true rfl) rfl (MH_obj rfl rfl) rfl (by decide) rfl rfl) (by rfl) (Nat.le_of_ble_eq_true rfl) (Nat.le_of_ble_eq_true rfl) rfl (by rfl) ?_
      refine w_m0 (pc1 := 68) rfl rfl (h_pI (j := 5) rfl rfl rfl rfl rfl rfl rfl ⟨rfl, rfl⟩ rfl) rfl ?_
      refine w_p (pc1 := 69) rfl rfl ?_
      refine w_ji (pc1 := 72) (vs := [.ref 120]) (rest := []) (m_90 (d := d) (sl := 0) S4 (by rw [sI_1, if_pos ⟨rfl, rfl⟩])) rfl rfl rfl (fun _ _ => rfl) rfl (by exact cl_v my_90 rfl rfl rfl (Nat.le_of_ble_eq_true rfl) rfl (MH_obj rfl rfl) rfl (by decide) rfl rfl) (by rfl) (Nat.le_of_ble_eq_true rfl) (Nat.le_of_ble_eq_true rfl) rfl (fun v h1 d1 hq => ?_) (fun a h1 d1 hq => ?_)
      · obtain ⟨u, i2, C3, ⟨s1, hv, s3, s4⟩, hh, hn⟩ := hq
        subst hv; subst hh; subst hn
        obtain rfl := rThr_s s1
        refine w_r rfl rfl rfl (fun _ _ => rfl) rfl ?_
        refine ⟨(39, trF tr (vl B n (i + 1 + 1))), i + 1 + 1 + 1, nl, C3, t, ⟨er.trans (pb_r s1), rfl, ⟨(s4.2.2 20 4 (by omega)).trans ((f3.2.2 20 4 (by omega)).trans (by rw [n2, h39])), by rw [s4.1 20 5 (by omega), sI_1, if_pos ⟨rfl, rfl⟩]⟩, ⟨s3, by rw [s4.1 21 6 (by omega), sI_1, if_neg (by omega), f3.1 21 6 (by omega)]; exact l2⟩, ⟨frD_t f2 (frD_t (frD_N f3) (frD_t (frD_I (by omega)) (frD_N s4))), (s4.2.2 20 3 (by omega)).trans ((f3.2.2 20 3 (by omega)).trans v2)⟩, tlE_r, by omega, by omega⟩, ?_, by omega⟩
        with_reducible rfl
      · rcases hq with ⟨c, j, ⟨x1, x2⟩, ha, hh, hn⟩
        · subst ha; subst hh; subst hn
          refine Or.inl ⟨ch_new (by decide) rfl, ?_⟩
          have := rThr_j x1
          refine ⟨c, j, _, t, sl + 0, ⟨er.trans (pb_l x1), flt_rf.1, frD_t (f5) flt_rf.2, ⟨tlE_r, by omega, by omega⟩, by omega⟩, rfl, ?_, by omega⟩
          with_reducible rfl
    · have er : rDrp (tkP B n) sc tr i nl = .inl (2, i + 1) := (if_neg h37).trans (if_neg h39)
      refine w_p (pc1 := 1) rfl rfl ?_
      refine w_m0 (pc1 := 4) rfl rfl (h_gC rfl rfl rfl rfl) rfl ?_
      refine w_je (pc1 := 7) (vs := [.ref 101]) (rest := []) (st1 := []) (m_21s (d := d + 8) (sl := 0) S h1 h2) rfl rfl rfl (fun _ _ => rfl) rfl (by exact cl_v my_21 rfl rfl rfl (Nat.le_of_ble_eq_true rfl) rfl (MH_obj rfl rfl) rfl (by decide) rfl rfl) (by rfl) (Nat.le_of_ble_eq_true rfl) (Nat.le_of_ble_eq_true rfl) rfl (by rfl) ?_
      refine w_p (pc1 := 8) rfl rfl ?_
      refine w_p (pc1 := 9) rfl rfl ?_
      refine w_m0 (pc1 := 12) rfl rfl (h_gC rfl rfl rfl rfl) rfl ?_
      refine w_m0 (pc1 := 15) (st1 := .ref (kd B n (i + 1)) :: _) rfl rfl (h_gRs (j := 6) rfl rfl rfl rfl rfl (tkS_tok S1)) rfl ?_
      refine w_m0 (pc1 := 18) rfl rfl (h_pR (j := 4) (v := some (kd B n (i + 1))) rfl rfl rfl rfl rfl rfl rfl ⟨rfl, rfl⟩ rfl) rfl ?_
      rw [hC2]
      refine w_p (pc1 := 19) rfl rfl ?_
      refine w_m0 (pc1 := 22) rfl rfl (h_gC rfl rfl rfl rfl) rfl ?_
      refine w_m0 (pc1 := 25) (st1 := .ref 37 :: _) rfl rfl rfl rfl ?_
      refine w_je (pc1 := 28) (vs := [.ref 101, .ref 37]) (rest := []) (st1 := [.int 0]) (m_44n (d := d + 8) (sl := 0) S2 (by decide) h37) rfl rfl rfl (fun _ _ => rfl) rfl (by exact cl_v my_44 rfl rfl rfl (Nat.le_of_ble_eq_true rfl) rfl (MH_obj rfl rfl) rfl (by decide) rfl rfl) (by rfl) (Nat.le_of_ble_eq_true rfl) (Nat.le_of_ble_eq_true rfl) rfl (by rfl) ?_
      refine w_t (a := 40) (b := 31) rfl rfl rfl ?_
      refine w_p (pc1 := 41) rfl rfl ?_
      refine w_m0 (pc1 := 44) rfl rfl (h_gC rfl rfl rfl rfl) rfl ?_
      refine w_m0 (pc1 := 47) (st1 := .ref 39 :: _) rfl rfl rfl rfl ?_
      refine w_ji (pc1 := 50) (vs := [.ref 101, .ref 39]) (rest := []) (m_38n (d := d + 1) (sl := 0) S2 (by decide) h39) rfl rfl rfl (fun _ _ => rfl) rfl (by exact cl_v my_38 rfl rfl rfl (Nat.le_of_ble_eq_true rfl) rfl (MH_obj rfl rfl) rfl (by decide) rfl rfl) (by rfl) (Nat.le_of_ble_eq_true rfl) (Nat.le_of_ble_eq_true rfl) rfl (fun v h1 d1 hq => ?_) (fun a h1 d1 hq => ?_)
      · exact hq.elim
      · rcases hq with ⟨ha, hh, hn⟩
        · subst ha; subst hh; subst hn
          refine Or.inl ⟨ch_new (by decide) rfl, ?_⟩
          refine ⟨2, i + 1, _, t, sl + 0, ⟨er, flt_rf.1, frD_t f2 flt_rf.2, ⟨tlE_r, by omega, by omega⟩, by omega⟩, rfl, ?_, by omega⟩
          with_reducible rfl
set_option maxRecDepth 100000 in
theorem m_91 (S : tkS B n m C i) (h1 : kd B n i ≠ 1) (h2 : kd B n i ≠ 2) (hl : lfK (C.1 21 6) nl) (hM : MKK C mk) (hn : C.1 20 5 = -1) : Wd L xs (d + 9) y_91 (0, [(0, .ref 120)], [], MH C t, sl) (PV B n m C t i sl (rBck (tkP B n) mk i nl) (fun a C' _ => C'.1 20 5 = a)) (XD B n C t i sl (rBck (tkP B n) mk i nl)) := by
  have S1 := nxT_S S h1 h2
  have f1 := nxT_fr (B := B) (n := n) (C := C) (i := i)
  have l1 : lfK ((nxT B n C i).1 21 6) nl := by rw [f1.1 21 6 (by omega)]; exact hl
  by_cases h38 : kd B n (i + 1) = 38
  · have er : rBck (tkP B n) mk i nl = pb (rThr (tkP B n) (mkF mk (vl B n (i + 1 + 1))) (i + 1 + 1)) (fun u => .inr (mkF mk (vl B n (i + 1 + 1)), u.2, nl)) := if_pos h38
    have S3 := nxT_S S1 (by rw [h38]; decide) (by rw [h38]; decide)
    have f3 := frN_t' f1 (nxT_fr (B := B) (n := n) (C := nxT B n C i) (i := i + 1))
    have hM3 := MKK_D (frD_N f3) hM
    have h92 := m_92 (L := L) (xs := xs) (t := t) (d := d + 8) (sl := 0) (a := vl B n (i + 1 + 1)) hM3.1 hM3.2.1
    rw [mkF_K hM3] at h92
    have S4 : tkS B n m (sI (nxT B n (nxT B n C i) (i + 1)) 20 5 (mkF mk (vl B n (i + 1 + 1)))) (i + 1 + 1) := tkS_F S3 (fun k j h => by rw [sI_1, if_neg (by omega)]) rfl
    have f5 : frD C (sI (nxT B n (nxT B n C i) (i + 1)) 20 5 (mkF mk (vl B n (i + 1 + 1)))) := frD_t (frD_N f3) (frD_I (by omega))
    refine w_p (pc1 := 1) rfl rfl ?_
    refine w_m0 (pc1 := 4) rfl rfl (h_gC rfl rfl rfl rfl) rfl ?_
    refine w_je (pc1 := 7) (vs := [.ref 101]) (rest := []) (st1 := []) (m_21s (d := d + 8) (sl := 0) S h1 h2) rfl rfl rfl (fun _ _ => rfl) rfl (by exact cl_v my_21 rfl rfl rfl (Nat.le_of_ble_eq_true rfl) rfl (MH_obj rfl rfl) rfl (by decide) rfl rfl) (by rfl) (Nat.le_of_ble_eq_true rfl) (Nat.le_of_ble_eq_true rfl) rfl (by rfl) ?_
    refine w_p (pc1 := 8) rfl rfl ?_
    refine w_m0 (pc1 := 11) rfl rfl (h_gC rfl rfl rfl rfl) rfl ?_
    refine w_m0 (pc1 := 14) (st1 := .ref 38 :: _) rfl rfl rfl rfl ?_
    refine w_je (pc1 := 17) (vs := [.ref 101, .ref 38]) (rest := []) (st1 := [.int 1]) (m_44y (d := d + 7) (sl := 0) S1 (by decide) h38 (by decide) (by decide)) rfl rfl rfl (fun _ _ => rfl) rfl (by exact cl_v my_44 rfl rfl rfl (Nat.le_of_ble_eq_true rfl) rfl (MH_obj rfl rfl) rfl (by decide) rfl rfl) (by rfl) (Nat.le_of_ble_eq_true rfl) (Nat.le_of_ble_eq_true rfl) rfl (by rfl) ?_
    refine w_f (a := 42) (b := 20) rfl rfl rfl ?_
    refine w_p (pc1 := 21) rfl rfl ?_
    refine w_p (pc1 := 22) rfl rfl ?_
    refine w_m0 (pc1 := 25) rfl rfl (h_gC rfl rfl rfl rfl) rfl ?_
    refine w_p (pc1 := 26) rfl rfl ?_
    refine w_m0 (pc1 := 29) rfl rfl (h_gC rfl rfl rfl rfl) rfl ?_
    refine w_m0 (pc1 := 32) (st1 := .long (vl B n (i + 1 + 1)) :: _) rfl rfl (h_gJe (j := 8) rfl rfl rfl rfl rfl (S3.2.2.2.2.2.2.2)) rfl ?_
    refine w_je (pc1 := 35) (vs := [.ref 106, .long (vl B n (i + 1 + 1))]) (rest := [.ref 120]) (st1 := [.int (mkF mk (vl B n (i + 1 + 1))), .ref 120]) (h92) rfl rfl rfl (fun _ _ => rfl) rfl (by exact cl_v my_92 rfl rfl rfl (Nat.le_of_ble_eq_true rfl) rfl (MH_obj rfl rfl) rfl (by decide) rfl rfl) (by rfl) (Nat.le_of_ble_eq_true rfl) (Nat.le_of_ble_eq_true rfl) rfl (by rfl) ?_
    refine w_m0 (pc1 := 38) rfl rfl (h_pI (j := 5) rfl rfl rfl rfl rfl rfl rfl ⟨rfl, rfl⟩ rfl) rfl ?_
    refine w_p (pc1 := 39) rfl rfl ?_
    refine w_ji (pc1 := 42) (vs := [.ref 120]) (rest := []) (m_90 (d := d) (sl := 0) S4 (by rw [sI_1, if_pos ⟨rfl, rfl⟩])) rfl rfl rfl (fun _ _ => rfl) rfl (by exact cl_v my_90 rfl rfl rfl (Nat.le_of_ble_eq_true rfl) rfl (MH_obj rfl rfl) rfl (by decide) rfl rfl) (by rfl) (Nat.le_of_ble_eq_true rfl) (Nat.le_of_ble_eq_true rfl) rfl (fun v h1 d1 hq => ?_) (fun a h1 d1 hq => ?_)
    · obtain ⟨u, i2, C3, ⟨s1, hv, s3, s4⟩, hh, hn⟩ := hq
      subst hv; subst hh; subst hn
      obtain rfl := rThr_s s1
      refine w_r rfl rfl rfl (fun _ _ => rfl) rfl ?_
      refine ⟨mkF mk (vl B n (i + 1 + 1)), i + 1 + 1 + 1, nl, C3, t, ⟨er.trans (pb_r s1), rfl, ?_, ⟨s3, ?_⟩, ⟨frD_t f5 (frD_N s4), (s4.2.2 20 3 (by omega)).trans (f3.2.2 20 3 (by omega))⟩, tlE_r, by omega, by omega⟩, ?_, by omega⟩
      · show C3.1 20 5 = _
        rw [s4.1 20 5 (by omega), sI_1, if_pos ⟨rfl, rfl⟩]
      · rw [s4.1 21 6 (by omega), sI_1, if_neg (by omega), f3.1 21 6 (by omega)]
        exact hl
      · with_reducible rfl
    · rcases hq with ⟨c, j, ⟨x1, x2⟩, ha, hh, hn⟩
      · subst ha; subst hh; subst hn
        refine Or.inl ⟨ch_new (by decide) rfl, ?_⟩
        have := rThr_j x1
        refine ⟨c, j, _, t, sl + 0, ⟨er.trans (pb_l x1), flt_rf.1, frD_t (f5) flt_rf.2, ⟨tlE_r, by omega, by omega⟩, by omega⟩, rfl, ?_, by omega⟩
        with_reducible rfl
  · have er : rBck (tkP B n) mk i nl = .inr (-1, i + 1, nl) := if_neg h38
    refine w_p (pc1 := 1) rfl rfl ?_
    refine w_m0 (pc1 := 4) rfl rfl (h_gC rfl rfl rfl rfl) rfl ?_
    refine w_je (pc1 := 7) (vs := [.ref 101]) (rest := []) (st1 := []) (m_21s (d := d + 8) (sl := 0) S h1 h2) rfl rfl rfl (fun _ _ => rfl) rfl (by exact cl_v my_21 rfl rfl rfl (Nat.le_of_ble_eq_true rfl) rfl (MH_obj rfl rfl) rfl (by decide) rfl rfl) (by rfl) (Nat.le_of_ble_eq_true rfl) (Nat.le_of_ble_eq_true rfl) rfl (by rfl) ?_
    refine w_p (pc1 := 8) rfl rfl ?_
    refine w_m0 (pc1 := 11) rfl rfl (h_gC rfl rfl rfl rfl) rfl ?_
    refine w_m0 (pc1 := 14) (st1 := .ref 38 :: _) rfl rfl rfl rfl ?_
    refine w_je (pc1 := 17) (vs := [.ref 101, .ref 38]) (rest := []) (st1 := [.int 0]) (m_44n (d := d + 8) (sl := 0) S1 (by decide) h38) rfl rfl rfl (fun _ _ => rfl) rfl (by exact cl_v my_44 rfl rfl rfl (Nat.le_of_ble_eq_true rfl) rfl (MH_obj rfl rfl) rfl (by decide) rfl rfl) (by rfl) (Nat.le_of_ble_eq_true rfl) (Nat.le_of_ble_eq_true rfl) rfl (by rfl) ?_
    refine w_t (a := 42) (b := 20) rfl rfl rfl ?_
    refine w_r rfl rfl rfl (fun _ _ => rfl) rfl ?_
    refine ⟨-1, i + 1, nl, nxT B n C i, t, ⟨er, rfl, (f1.1 20 5 (by omega)).trans hn, ⟨S1, l1⟩, ⟨frD_N f1, f1.2.2 20 3 (by omega)⟩, tlE_r, by omega, by omega⟩, ?_, by omega⟩
    with_reducible rfl
set_option maxRecDepth 100000 in
theorem m_93 (S : tkS B n m C i) (h1 : kd B n i ≠ 1) (h2 : kd B n i ≠ 2) (hl : lfK (C.1 21 6) nl) (hM : MKK C mk) : Wd L xs (d + 9) y_93 (0, [(0, .ref 120)], [], MH C t, sl) (PV B n m C t i sl (rMrk (tkP B n) mk i nl) (fun a C' _ => C'.2.1 20 6 = a)) (XD B n C t i sl (rMrk (tkP B n) mk i nl)) := by
  have S1 := nxT_S S h1 h2
  have f1 := nxT_fr (B := B) (n := n) (C := C) (i := i)
  have f2 : frD C (sJ (nxT B n C i) 20 6 (vl B n (i + 1))) := frD_t (frD_N f1) frD_J
  have S2 : tkS B n m (sJ (nxT B n C i) 20 6 (vl B n (i + 1))) (i + 1) := tkS_D20 S1 (fun _ _ _ => rfl) (fun k j h => by rw [sJ_2, if_neg (by omega)]) (fun _ _ _ => rfl)
  have v2 : (sJ (nxT B n C i) 20 6 (vl B n (i + 1))).2.2 20 3 = C.2.2 20 3 := f1.2.2 20 3 (by omega)
  have l2 : lfK ((sJ (nxT B n C i) 20 6 (vl B n (i + 1))).1 21 6) nl := by rw [sJ_1, f1.1 21 6 (by omega)]; exact hl
  have n2 : (sJ (nxT B n C i) 20 6 (vl B n (i + 1))).2.1 20 6 = vl B n (i + 1) := by rw [sJ_2, if_pos ⟨rfl, rfl⟩]
  generalize hC2 : sJ (nxT B n C i) 20 6 (vl B n (i + 1)) = C2 at f2 S2 v2 l2 n2
  have hM2 := MKK_D f2 hM
  have h92 := m_92 (L := L) (xs := xs) (t := t) (d := d + 8) (sl := 0) (a := vl B n (i + 1)) hM2.1 hM2.2.1
  rw [mkF_K hM2] at h92
  by_cases h3 : kd B n (i + 1) = 3
  · by_cases hf : mkF mk (vl B n (i + 1)) = -1
    · by_cases h6 : 6 ≤ mk.1
      · have er : rMrk (tkP B n) mk i nl = .inl (6, i + 1) := (if_pos h3).trans (if_pos ⟨hf, h6⟩)
        have h6' := hM2.2.1
        refine w_p (pc1 := 1) rfl rfl ?_
        refine w_m0 (pc1 := 4) rfl rfl (h_gC rfl rfl rfl rfl) rfl ?_
        refine w_je (pc1 := 7) (vs := [.ref 101]) (rest := []) (st1 := []) (m_21s (d := d + 8) (sl := 0) S h1 h2) rfl rfl rfl (fun _ _ => rfl) rfl (by exact cl_v my_21 rfl rfl rfl (Nat.le_of_ble_eq_true rfl) rfl (MH_obj rfl rfl) rfl (by decide) rfl rfl) (by rfl) (Nat.le_of_ble_eq_true rfl) (Nat.le_of_ble_eq_true rfl) rfl (by rfl) ?_
        refine w_p (pc1 := 8) rfl rfl ?_
        refine w_p (pc1 := 9) rfl rfl ?_
        refine w_m0 (pc1 := 12) rfl rfl (h_gC rfl rfl rfl rfl) rfl ?_
        refine w_m0 (pc1 := 15) (st1 := .long (vl B n (i + 1)) :: _) rfl rfl (h_gJe (j := 8) rfl rfl rfl rfl rfl (S1.2.2.2.2.2.2.2)) rfl ?_
        refine w_m0 (pc1 := 18) rfl rfl (h_pJ (j := 6) rfl rfl rfl rfl rfl rfl rfl ⟨rfl, rfl⟩ rfl) rfl ?_
        rw [hC2]
        refine w_p (pc1 := 19) rfl rfl ?_
        refine w_m0 (pc1 := 22) rfl rfl (h_gC rfl rfl rfl rfl) rfl ?_
        refine w_m0 (pc1 := 25) (st1 := .ref (kd B n (i + 1)) :: _) rfl rfl (h_gRs (j := 6) rfl rfl rfl rfl rfl (tkS_tok S2)) rfl ?_
        refine w_m0 (pc1 := 28) (st1 := .ref 3 :: _) rfl rfl rfl rfl ?_
        refine w_an_y (A := 67) (Bn := 31) (ok_kd) (by decide) (h3) rfl rfl rfl ?_
        refine w_p (pc1 := 32) rfl rfl ?_
        refine w_m0 (pc1 := 35) rfl rfl (h_gC rfl rfl rfl rfl) rfl ?_
        refine w_p (pc1 := 36) rfl rfl ?_
        refine w_m0 (pc1 := 39) (st1 := .long (vl B n (i + 1)) :: _) rfl rfl (h_gJe (j := 6) rfl rfl rfl rfl rfl (n2)) rfl ?_
        refine w_je (pc1 := 42) (vs := [.ref 106, .long (vl B n (i + 1))]) (rest := []) (st1 := [.int (mkF mk (vl B n (i + 1)))]) (h92) rfl rfl rfl (fun _ _ => rfl) rfl (by exact cl_v my_92 rfl rfl rfl (Nat.le_of_ble_eq_true rfl) rfl (MH_obj rfl rfl) rfl (by decide) rfl rfl) (by rfl) (Nat.le_of_ble_eq_true rfl) (Nat.le_of_ble_eq_true rfl) rfl (by rfl) ?_
        refine w_p (pc1 := 43) (st1 := .int (-1) :: _) rfl rfl ?_
        refine w_f (a := 67) (b := 46) (cb_ne_f (by exact hf)) rfl rfl ?_
        refine w_p (pc1 := 47) rfl rfl ?_
        refine w_m0 (pc1 := 50) rfl rfl (h_gC rfl rfl rfl rfl) rfl ?_
        refine w_m0 (pc1 := 53) (st1 := .int (nI (mk.1)) :: _) rfl rfl (h_gIe (j := 12) rfl rfl rfl rfl rfl (hM2.1)) rfl ?_
        refine w_p (pc1 := 55) (st1 := .int 6 :: _) rfl rfl ?_
        refine w_f (a := 67) (b := 58) (bN_lt_f (a := mk.1) (b := 6) (by omega) (by omega) (by omega)) rfl rfl ?_
        refine w_p (pc1 := 59) rfl rfl ?_
        refine w_m0 (pc1 := 62) rfl rfl (h_gC rfl rfl rfl rfl) rfl ?_
        refine w_p (pc1 := 64) (st1 := .int 6 :: _) rfl rfl ?_
        refine w_ji (pc1 := 67) (vs := [.ref 101, .int 6]) (rest := []) (m_31 (d := d + 2) (sl := 0) (c := 6) S2) rfl rfl rfl (fun _ _ => rfl) rfl (by exact cl_v my_31 rfl rfl rfl (Nat.le_of_ble_eq_true rfl) rfl (MH_obj rfl rfl) rfl (by decide) rfl rfl) (by rfl) (Nat.le_of_ble_eq_true rfl) (Nat.le_of_ble_eq_true rfl) rfl (fun v h1 d1 hq => ?_) (fun a h1 d1 hq => ?_)
        · exact hq.elim
        · rcases hq with ⟨ha, hh, hn⟩
          · subst ha; subst hh; subst hn
            refine Or.inl ⟨ch_new (by decide) rfl, ?_⟩
            refine ⟨6, i + 1, _, t, sl + 0, ⟨er, flt_rf.1, frD_t f2 flt_rf.2, ⟨tlE_r, by omega, by omega⟩, by omega⟩, rfl, ?_, by omega⟩
            with_reducible rfl
      · have er : rMrk (tkP B n) mk i nl = .inr (vl B n (i + 1), i + 1 + 1, nl) := (if_pos h3).trans (if_neg (fun q => h6 q.2))
        have h6' := hM2.2.1
        refine w_p (pc1 := 1) rfl rfl ?_
        refine w_m0 (pc1 := 4) rfl rfl (h_gC rfl rfl rfl rfl) rfl ?_
        refine w_je (pc1 := 7) (vs := [.ref 101]) (rest := []) (st1 := []) (m_21s (d := d + 8) (sl := 0) S h1 h2) rfl rfl rfl (fun _ _ => rfl) rfl (by exact cl_v my_21 rfl rfl rfl (Nat.le_of_ble_eq_true rfl) rfl (MH_obj rfl rfl) rfl (by decide) rfl rfl) (by rfl) (Nat.le_of_ble_eq_true rfl) (Nat.le_of_ble_eq_true rfl) rfl (by rfl) ?_
        refine w_p (pc1 := 8) rfl rfl ?_
        refine w_p (pc1 := 9) rfl rfl ?_
        refine w_m0 (pc1 := 12) rfl rfl (h_gC rfl rfl rfl rfl) rfl ?_
        refine w_m0 (pc1 := 15) (st1 := .long (vl B n (i + 1)) :: _) rfl rfl (h_gJe (j := 8) rfl rfl rfl rfl rfl (S1.2.2.2.2.2.2.2)) rfl ?_
        refine w_m0 (pc1 := 18) rfl rfl (h_pJ (j := 6) rfl rfl rfl rfl rfl rfl rfl ⟨rfl, rfl⟩ rfl) rfl ?_
        rw [hC2]
        refine w_p (pc1 := 19) rfl rfl ?_
        refine w_m0 (pc1 := 22) rfl rfl (h_gC rfl rfl rfl rfl) rfl ?_
        refine w_m0 (pc1 := 25) (st1 := .ref (kd B n (i + 1)) :: _) rfl rfl (h_gRs (j := 6) rfl rfl rfl rfl rfl (tkS_tok S2)) rfl ?_
        refine w_m0 (pc1 := 28) (st1 := .ref 3 :: _) rfl rfl rfl rfl ?_
        refine w_an_y (A := 67) (Bn := 31) (ok_kd) (by decide) (h3) rfl rfl rfl ?_
        refine w_p (pc1 := 32) rfl rfl ?_
        refine w_m0 (pc1 := 35) rfl rfl (h_gC rfl rfl rfl rfl) rfl ?_
        refine w_p (pc1 := 36) rfl rfl ?_
        refine w_m0 (pc1 := 39) (st1 := .long (vl B n (i + 1)) :: _) rfl rfl (h_gJe (j := 6) rfl rfl rfl rfl rfl (n2)) rfl ?_
        refine w_je (pc1 := 42) (vs := [.ref 106, .long (vl B n (i + 1))]) (rest := []) (st1 := [.int (mkF mk (vl B n (i + 1)))]) (h92) rfl rfl rfl (fun _ _ => rfl) rfl (by exact cl_v my_92 rfl rfl rfl (Nat.le_of_ble_eq_true rfl) rfl (MH_obj rfl rfl) rfl (by decide) rfl rfl) (by rfl) (Nat.le_of_ble_eq_true rfl) (Nat.le_of_ble_eq_true rfl) rfl (by rfl) ?_
        refine w_p (pc1 := 43) (st1 := .int (-1) :: _) rfl rfl ?_
        refine w_f (a := 67) (b := 46) (cb_ne_f (by exact hf)) rfl rfl ?_
        refine w_p (pc1 := 47) rfl rfl ?_
        refine w_m0 (pc1 := 50) rfl rfl (h_gC rfl rfl rfl rfl) rfl ?_
        refine w_m0 (pc1 := 53) (st1 := .int (nI (mk.1)) :: _) rfl rfl (h_gIe (j := 12) rfl rfl rfl rfl rfl (hM2.1)) rfl ?_
        refine w_p (pc1 := 55) (st1 := .int 6 :: _) rfl rfl ?_
        refine w_t (a := 67) (b := 58) (bN_lt_t (a := mk.1) (b := 6) (by omega) (by omega) (by omega)) rfl rfl ?_
        refine w_p (pc1 := 68) rfl rfl ?_
        refine w_m0 (pc1 := 71) rfl rfl (h_gC rfl rfl rfl rfl) rfl ?_
        refine w_m0 (pc1 := 74) (st1 := .ref 3 :: _) rfl rfl rfl rfl ?_
        refine w_je (pc1 := 77) (vs := [.ref 101, .ref 3]) (rest := []) (st1 := []) (m_38y (d := d + 7) (sl := 0) S2 (by decide) h3 (by decide) (by decide)) rfl rfl rfl (fun _ _ => rfl) rfl (by exact cl_v my_38 rfl rfl rfl (Nat.le_of_ble_eq_true rfl) rfl (MH_obj rfl rfl) rfl (by decide) rfl rfl) (by rfl) (Nat.le_of_ble_eq_true rfl) (Nat.le_of_ble_eq_true rfl) rfl (by rfl) ?_
        refine w_r rfl rfl rfl (fun _ _ => rfl) rfl ?_
        refine ⟨vl B n (i + 1), i + 1 + 1, nl, nxT B n C2 (i + 1), t, ⟨er, rfl, (nxT_fr.2.1 20 6 (by omega)).trans n2, ⟨nxT_S S2 (by rw [h3]; decide) (by rw [h3]; decide), ?_⟩, ⟨frD_t f2 (frD_N nxT_fr), (nxT_fr.2.2 20 3 (by omega)).trans v2⟩, tlE_r, by omega, by omega⟩, ?_, by omega⟩
        · rw [nxT_fr.1 21 6 (by omega)]
          exact l2
        · with_reducible rfl
    · have er : rMrk (tkP B n) mk i nl = .inr (vl B n (i + 1), i + 1 + 1, nl) := (if_pos h3).trans (if_neg (fun q => hf q.1))
      refine w_p (pc1 := 1) rfl rfl ?_
      refine w_m0 (pc1 := 4) rfl rfl (h_gC rfl rfl rfl rfl) rfl ?_
      refine w_je (pc1 := 7) (vs := [.ref 101]) (rest := []) (st1 := []) (m_21s (d := d + 8) (sl := 0) S h1 h2) rfl rfl rfl (fun _ _ => rfl) rfl (by exact cl_v my_21 rfl rfl rfl (Nat.le_of_ble_eq_true rfl) rfl (MH_obj rfl rfl) rfl (by decide) rfl rfl) (by rfl) (Nat.le_of_ble_eq_true rfl) (Nat.le_of_ble_eq_true rfl) rfl (by rfl) ?_
      refine w_p (pc1 := 8) rfl rfl ?_
      refine w_p (pc1 := 9) rfl rfl ?_
      refine w_m0 (pc1 := 12) rfl rfl (h_gC rfl rfl rfl rfl) rfl ?_
      refine w_m0 (pc1 := 15) (st1 := .long (vl B n (i + 1)) :: _) rfl rfl (h_gJe (j := 8) rfl rfl rfl rfl rfl (S1.2.2.2.2.2.2.2)) rfl ?_
      refine w_m0 (pc1 := 18) rfl rfl (h_pJ (j := 6) rfl rfl rfl rfl rfl rfl rfl ⟨rfl, rfl⟩ rfl) rfl ?_
      rw [hC2]
      refine w_p (pc1 := 19) rfl rfl ?_
      refine w_m0 (pc1 := 22) rfl rfl (h_gC rfl rfl rfl rfl) rfl ?_
      refine w_m0 (pc1 := 25) (st1 := .ref (kd B n (i + 1)) :: _) rfl rfl (h_gRs (j := 6) rfl rfl rfl rfl rfl (tkS_tok S2)) rfl ?_
      refine w_m0 (pc1 := 28) (st1 := .ref 3 :: _) rfl rfl rfl rfl ?_
      refine w_an_y (A := 67) (Bn := 31) (ok_kd) (by decide) (h3) rfl rfl rfl ?_
      refine w_p (pc1 := 32) rfl rfl ?_
      refine w_m0 (pc1 := 35) rfl rfl (h_gC rfl rfl rfl rfl) rfl ?_
      refine w_p (pc1 := 36) rfl rfl ?_
      refine w_m0 (pc1 := 39) (st1 := .long (vl B n (i + 1)) :: _) rfl rfl (h_gJe (j := 6) rfl rfl rfl rfl rfl (n2)) rfl ?_
      refine w_je (pc1 := 42) (vs := [.ref 106, .long (vl B n (i + 1))]) (rest := []) (st1 := [.int (mkF mk (vl B n (i + 1)))]) (h92) rfl rfl rfl (fun _ _ => rfl) rfl (by exact cl_v my_92 rfl rfl rfl (Nat.le_of_ble_eq_true rfl) rfl (MH_obj rfl rfl) rfl (by decide) rfl rfl) (by rfl) (Nat.le_of_ble_eq_true rfl) (Nat.le_of_ble_eq_true rfl) rfl (by rfl) ?_
      refine w_p (pc1 := 43) (st1 := .int (-1) :: _) rfl rfl ?_
      refine w_t (a := 67) (b := 46) (cb_ne_t (by exact hf)) rfl rfl ?_
      refine w_p (pc1 := 68) rfl rfl ?_
      refine w_m0 (pc1 := 71) rfl rfl (h_gC rfl rfl rfl rfl) rfl ?_
      refine w_m0 (pc1 := 74) (st1 := .ref 3 :: _) rfl rfl rfl rfl ?_
      refine w_je (pc1 := 77) (vs := [.ref 101, .ref 3]) (rest := []) (st1 := []) (m_38y (d := d + 7) (sl := 0) S2 (by decide) h3 (by decide) (by decide)) rfl rfl rfl (fun _ _ => rfl) rfl (by exact cl_v my_38 rfl rfl rfl (Nat.le_of_ble_eq_true rfl) rfl (MH_obj rfl rfl) rfl (by decide) rfl rfl) (by rfl) (Nat.le_of_ble_eq_true rfl) (Nat.le_of_ble_eq_true rfl) rfl (by rfl) ?_
      refine w_r rfl rfl rfl (fun _ _ => rfl) rfl ?_
      refine ⟨vl B n (i + 1), i + 1 + 1, nl, nxT B n C2 (i + 1), t, ⟨er, rfl, (nxT_fr.2.1 20 6 (by omega)).trans n2, ⟨nxT_S S2 (by rw [h3]; decide) (by rw [h3]; decide), ?_⟩, ⟨frD_t f2 (frD_N nxT_fr), (nxT_fr.2.2 20 3 (by omega)).trans v2⟩, tlE_r, by omega, by omega⟩, ?_, by omega⟩
      · rw [nxT_fr.1 21 6 (by omega)]
        exact l2
      · with_reducible rfl
  · have er : rMrk (tkP B n) mk i nl = .inl (2, i + 1) := if_neg h3
    refine w_p (pc1 := 1) rfl rfl ?_
    refine w_m0 (pc1 := 4) rfl rfl (h_gC rfl rfl rfl rfl) rfl ?_
    refine w_je (pc1 := 7) (vs := [.ref 101]) (rest := []) (st1 := []) (m_21s (d := d + 8) (sl := 0) S h1 h2) rfl rfl rfl (fun _ _ => rfl) rfl (by exact cl_v my_21 rfl rfl rfl (Nat.le_of_ble_eq_true rfl) rfl (MH_obj rfl rfl) rfl (by decide) rfl rfl) (by rfl) (Nat.le_of_ble_eq_true rfl) (Nat.le_of_ble_eq_true rfl) rfl (by rfl) ?_
    refine w_p (pc1 := 8) rfl rfl ?_
    refine w_p (pc1 := 9) rfl rfl ?_
    refine w_m0 (pc1 := 12) rfl rfl (h_gC rfl rfl rfl rfl) rfl ?_
    refine w_m0 (pc1 := 15) (st1 := .long (vl B n (i + 1)) :: _) rfl rfl (h_gJe (j := 8) rfl rfl rfl rfl rfl (S1.2.2.2.2.2.2.2)) rfl ?_
    refine w_m0 (pc1 := 18) rfl rfl (h_pJ (j := 6) rfl rfl rfl rfl rfl rfl rfl ⟨rfl, rfl⟩ rfl) rfl ?_
    rw [hC2]
    refine w_p (pc1 := 19) rfl rfl ?_
    refine w_m0 (pc1 := 22) rfl rfl (h_gC rfl rfl rfl rfl) rfl ?_
    refine w_m0 (pc1 := 25) (st1 := .ref (kd B n (i + 1)) :: _) rfl rfl (h_gRs (j := 6) rfl rfl rfl rfl rfl (tkS_tok S2)) rfl ?_
    refine w_m0 (pc1 := 28) (st1 := .ref 3 :: _) rfl rfl rfl rfl ?_
    refine w_an_n (A := 67) (ok_kd) (by decide) (h3) rfl rfl ?_
    refine w_p (pc1 := 68) rfl rfl ?_
    refine w_m0 (pc1 := 71) rfl rfl (h_gC rfl rfl rfl rfl) rfl ?_
    refine w_m0 (pc1 := 74) (st1 := .ref 3 :: _) rfl rfl rfl rfl ?_
    refine w_ji (pc1 := 77) (vs := [.ref 101, .ref 3]) (rest := []) (m_38n (d := d + 1) (sl := 0) S2 (by decide) h3) rfl rfl rfl (fun _ _ => rfl) rfl (by exact cl_v my_38 rfl rfl rfl (Nat.le_of_ble_eq_true rfl) rfl (MH_obj rfl rfl) rfl (by decide) rfl rfl) (by rfl) (Nat.le_of_ble_eq_true rfl) (Nat.le_of_ble_eq_true rfl) rfl (fun v h1 d1 hq => ?_) (fun a h1 d1 hq => ?_)
    · exact hq.elim
    · rcases hq with ⟨ha, hh, hn⟩
      · subst ha; subst hh; subst hn
        refine Or.inl ⟨ch_new (by decide) rfl, ?_⟩
        refine ⟨2, i + 1, _, t, sl + 0, ⟨er, flt_rf.1, frD_t f2 flt_rf.2, ⟨tlE_r, by omega, by omega⟩, by omega⟩, rfl, ?_, by omega⟩
        with_reducible rfl
end SHO
