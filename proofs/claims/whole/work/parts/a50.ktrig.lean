
/-! ONE SIDE: a trigger is read, 1: new names; what it does -/
def trP (tr : Nat → Option tr_T) (v : Int64) (j : Nat) : Bool := match tr j with
  | none => false
  | some g => decide (gNm g = v)
def trF (tr : Nat → Option tr_T) (v : Int64) : Int32 := fnd (trP tr v) 8 0
def trN (tr : Nat → Option tr_T) : Int32 := fnd (fun j => (tr j).isNone) 8 0
def tbN (tn : Nat → Int64) : Int32 := fnd (fun j => decide (tn j = 0)) 6 0
def rNew (K : tv2) (f : Int64 → Int32) (w : Int32) (i : Nat) : pz_T (Int64 × Nat) := if K.1 i = 3 then (if f (K.2 i) = -1 then (if w = -1 then .inl (6, i) else .inr (K.2 i, i + 1)) else .inl (3, i)) else .inl (2, i)
def rLet (K : tv2) (sc : sc_T) (tg : Option (Nat × Nat)) (b ti e i : Nat) (nl : Option Nat) : pz_T (ac_T × Nat × Option Nat) := if ti = 1 ∨ e = 2 then .inl (7, i) else pb (rCol K sc b [] (i + 1)) (fun c => pb (xpP K 50 c.2) (fun j => pb (rFm (fE K sc none tg) 3 j nl) (fun x => .inr ((3, none, [c.1], [some x.1], none, 0), x.2))))
def rRai (K : tv2) (i : Nat) (nl : Option Nat) : pz_T (ac_T × Nat × Option Nat) := if K.1 (i + 1) = 4 then .inr ((4, none, [], [], none, (K.2 (i + 1)).toInt32), i + 1 + 1, nl) else .inl (2, i + 1)
section TRI
variable {L : Nat} {xs : Nat → Int32} {B : Nat → Nat} {n m : Nat} {C C' C0 C1 : co_T} {t t0 t1 : ab_H} {d sl sl0 sl1 i i0 i1 j b e ti k k0 kc ks w c : Nat} {sc : sc_T} {row : Option Nat} {tg : Option (Nat × Nat)} {nl : Option Nat} {kd0 tb0 : Int32} {P : Option Value → ab_H → Nat → Prop} {X : Nat → ab_H → Nat → Prop} {cs : List Nat} {ss : List (Option (List op_T))} {E : fe_T} {tr : Nat → Option tr_T}
/-! the triggers as one side keeps them -/
def TGK (C : co_T) (t : ab_H) (tr : Nat → Option tr_T) : Prop := ∀ i, i < 8 → opK (TRK t) (C.2.2 12 i) (tr i)
set_option maxRecDepth 100000 in
theorem trN_K (h : TGK C t tr) : fnd (fun i => !isG C i) 8 0 = trN tr := fnd_c 8 0 (fun j _ hj => by
  have := h j (by omega)
  cases e : tr j with
  | none =>
    rw [e] at this
    have this : C.2.2 12 j = none := this
    show (!(C.2.2 12 j).isSome) = true
    rw [this]
    rfl
  | some g =>
    rw [e] at this
    obtain ⟨k, e1, _⟩ := this
    show (!(C.2.2 12 j).isSome) = false
    rw [e1]
    rfl)
set_option maxRecDepth 100000 in
theorem tbN_K (S : SCK C sc) : fnd (fun i => !isT C i) 6 0 = tbN sc.1 := fnd_c 6 0 (fun j _ hj => by
  unfold isT
  rw [S.1 j (by omega), Bool.not_not])
set_option maxRecDepth 100000 in
theorem lp_34 {a : Int64} (hT : TGK C t tr) : ∀ n k : Nat, k + n = 8 → Wd L xs d y_34 (2, [(3, .int (nI k)), (0, .ref 106), (1, .long a)], [], MH C t, sl) (Rt (some (.int (fnd (trP tr a) n k))) (MH C t) sl) nX
  | 0, k, hk => by
    obtain rfl : k = 8 := by omega
    refine w_p (pc1 := 3) rfl rfl ?_
    refine w_p (pc1 := 5) (st1 := .int 8 :: _) rfl rfl ?_
    refine w_t (a := 39) (b := 8) (bN_ge_t (a := 8) (b := 8) (by omega) (by omega) (by omega)) rfl rfl ?_
    refine w_p (pc1 := 40) (st1 := .int (-1) :: _) rfl rfl ?_
    refine w_r rfl rfl rfl (fun _ _ => rfl) cr_int ?_
    exact ⟨rfl, rfl, rfl⟩
  | n + 1, k, hk => by
    have hq := hT k (by omega)
    cases e : tr k with
    | none =>
      rw [e] at hq
      have hN : C.2.2 12 k = none := hq
      have h0 : trP tr a k = false := by unfold trP; rw [e]
      rw [fnd, h0, cond_false]
      refine w_p (pc1 := 3) rfl rfl ?_
      refine w_p (pc1 := 5) (st1 := .int 8 :: _) rfl rfl ?_
      refine w_f (a := 39) (b := 8) (bN_ge_f (a := k) (b := 8) (by omega) (by omega) (by omega)) rfl rfl ?_
      refine w_p (pc1 := 9) rfl rfl ?_
      refine w_m0 (pc1 := 12) rfl rfl (h_gC rfl rfl rfl rfl) rfl ?_
      refine w_p (pc1 := 13) rfl rfl ?_
      refine w_m0 (pc1 := 14) (st1 := .null :: _) rfl rfl (n_aln (e := k) rfl rfl (by decide) rfl (by omega) (hN)) rfl ?_
      refine w_t (a := 33) (b := 17) rfl rfl rfl ?_
      refine w_iinc (pc1 := 36) (u := nI (k)) (z := nI (k + 1)) (al1 := [(3, .int (nI (k + 1))), (0, .ref 106), (1, .long (a))]) rfl rfl rfl nK_1 rfl rfl ?_
      refine w_p (pc1 := 2) rfl rfl ?_
      exact lp_34 hT n (k + 1) (by omega)
    | some g =>
      rw [e] at hq
      obtain ⟨kk, hN, ka, vw, h1, h2, h3⟩ := hq
      have h0 : trP tr a k = decide (gNm g = a) := by unfold trP; rw [e]
      by_cases ha : gNm g = a
      · rw [fnd, h0, decide_eq_true ha, cond_true]
        refine w_p (pc1 := 3) rfl rfl ?_
        refine w_p (pc1 := 5) (st1 := .int 8 :: _) rfl rfl ?_
        refine w_f (a := 39) (b := 8) (bN_ge_f (a := k) (b := 8) (by omega) (by omega) (by omega)) rfl rfl ?_
        refine w_p (pc1 := 9) rfl rfl ?_
        refine w_m0 (pc1 := 12) rfl rfl (h_gC rfl rfl rfl rfl) rfl ?_
        refine w_p (pc1 := 13) rfl rfl ?_
        refine w_m0 (pc1 := 14) (st1 := .ref (241 + kk) :: _) rfl rfl (n_als (e := k) rfl rfl (by decide) rfl (by omega) (hN)) rfl ?_
        refine w_f (a := 33) (b := 17) rfl rfl rfl ?_
        refine w_p (pc1 := 18) rfl rfl ?_
        refine w_m0 (pc1 := 21) rfl rfl (h_gC rfl rfl rfl rfl) rfl ?_
        refine w_p (pc1 := 22) rfl rfl ?_
        refine w_m0 (pc1 := 23) (st1 := .ref (241 + kk) :: _) rfl rfl (n_als (e := k) rfl rfl (by decide) rfl (by omega) (hN)) rfl ?_
        refine w_m0 (pc1 := 26) (st1 := .long (gNm g) :: _) rfl rfl (x_gf (k := kk) rfl h1 rfl) rfl ?_
        refine w_p (pc1 := 27) rfl rfl ?_
        refine w_p (pc1 := 28) rfl rfl ?_
        refine w_f (a := 33) (b := 31) (lb_ne_f (by exact ha)) rfl rfl ?_
        refine w_p (pc1 := 32) rfl rfl ?_
        refine w_r rfl rfl rfl (fun _ _ => rfl) cr_int ?_
        exact ⟨rfl, rfl, rfl⟩
      · rw [fnd, h0, decide_eq_false ha, cond_false]
        refine w_p (pc1 := 3) rfl rfl ?_
        refine w_p (pc1 := 5) (st1 := .int 8 :: _) rfl rfl ?_
        refine w_f (a := 39) (b := 8) (bN_ge_f (a := k) (b := 8) (by omega) (by omega) (by omega)) rfl rfl ?_
        refine w_p (pc1 := 9) rfl rfl ?_
        refine w_m0 (pc1 := 12) rfl rfl (h_gC rfl rfl rfl rfl) rfl ?_
        refine w_p (pc1 := 13) rfl rfl ?_
        refine w_m0 (pc1 := 14) (st1 := .ref (241 + kk) :: _) rfl rfl (n_als (e := k) rfl rfl (by decide) rfl (by omega) (hN)) rfl ?_
        refine w_f (a := 33) (b := 17) rfl rfl rfl ?_
        refine w_p (pc1 := 18) rfl rfl ?_
        refine w_m0 (pc1 := 21) rfl rfl (h_gC rfl rfl rfl rfl) rfl ?_
        refine w_p (pc1 := 22) rfl rfl ?_
        refine w_m0 (pc1 := 23) (st1 := .ref (241 + kk) :: _) rfl rfl (n_als (e := k) rfl rfl (by decide) rfl (by omega) (hN)) rfl ?_
        refine w_m0 (pc1 := 26) (st1 := .long (gNm g) :: _) rfl rfl (x_gf (k := kk) rfl h1 rfl) rfl ?_
        refine w_p (pc1 := 27) rfl rfl ?_
        refine w_p (pc1 := 28) rfl rfl ?_
        refine w_t (a := 33) (b := 31) (lb_ne_t (by exact ha)) rfl rfl ?_
        refine w_iinc (pc1 := 36) (u := nI (k)) (z := nI (k + 1)) (al1 := [(3, .int (nI (k + 1))), (0, .ref 106), (1, .long (a))]) rfl rfl rfl nK_1 rfl rfl ?_
        refine w_p (pc1 := 2) rfl rfl ?_
        exact lp_34 hT n (k + 1) (by omega)
set_option maxRecDepth 100000 in
theorem m_34 {a : Int64} (hT : TGK C t tr) : Wd L xs d y_34 (0, [(0, .ref 106), (1, .long a)], [], MH C t, sl) (Rt (some (.int (trF tr a))) (MH C t) sl) nX := by
  refine w_p (pc1 := 1) (st1 := .int 0 :: _) rfl rfl ?_
  refine w_p (pc1 := 2) (al1 := [(3, .int 0), (0, .ref 106), (1, .long (a))]) rfl rfl ?_
  exact lp_34 hT 8 0 rfl
set_option maxRecDepth 100000 in
theorem m_30g (S : tkS B n m C i) (hT : TGK C t tr) : Wd L xs (d + 7) y_30 (0, [(0, .ref 120), (1, .ref 39)], [], MH C t, sl) (PN B n m C t sl (rNew (tkP B n) (trF tr) (trN tr) i) (fun v r => some (.long v) = r)) (XN B n m C t sl (rNew (tkP B n) (trF tr) (trN tr) i)) := by
  have h36 := m_36 (L := L) (xs := xs) (C := C) (t := t) (d := d + 6) (sl := 0)
  rw [trN_K hT] at h36
  by_cases h3 : kd B n i = 3
  · have h3' : (tkP B n).1 i = 3 := h3
    by_cases hf : trF tr (vl B n i) = -1
    · have hf' : (trF tr) ((tkP B n).2 i) = -1 := hf
      by_cases hg : trN tr = -1
      · have er : rNew (tkP B n) (trF tr) (trN tr) i = .inl (6, i) := by
          unfold rNew
          rw [if_pos h3', if_pos hf', if_pos hg]
        refine w_p (pc1 := 1) rfl rfl ?_
        refine w_m0 (pc1 := 4) rfl rfl (h_gC rfl rfl rfl rfl) rfl ?_
        refine w_m0 (pc1 := 7) (st1 := .ref (kd B n i) :: _) rfl rfl (h_gRs (j := 6) rfl rfl rfl rfl rfl (tkS_tok S)) rfl ?_
        refine w_m0 (pc1 := 10) (st1 := .ref 3 :: _) rfl rfl rfl rfl ?_
        refine w_ae_y (A := 21) (ok_kd) (by decide) (h3) rfl rfl ?_
        refine w_p (pc1 := 22) rfl rfl ?_
        refine w_m0 (pc1 := 25) rfl rfl (h_gC rfl rfl rfl rfl) rfl ?_
        refine w_m0 (pc1 := 28) (st1 := .long (vl B n i) :: _) rfl rfl (h_gJe (j := 8) rfl rfl rfl rfl rfl (S.2.2.2.2.2.2.2)) rfl ?_
        refine w_p (pc1 := 29) (al1 := [(2, .long (vl B n i)), (0, .ref 120), (1, .ref 39)]) rfl rfl ?_
        refine w_p (pc1 := 30) rfl rfl ?_
        refine w_m0 (pc1 := 33) (st1 := .ref 37 :: _) rfl rfl rfl rfl ?_
        refine w_t (a := 40) (b := 36) rfl rfl rfl ?_
        refine w_p (pc1 := 41) (st1 := .int 0 :: _) rfl rfl ?_
        refine w_p (pc1 := 43) (al1 := [(4, .int 0), (2, .long (vl B n i)), (0, .ref 120), (1, .ref 39)]) rfl rfl ?_
        refine w_p (pc1 := 45) rfl rfl ?_
        refine w_t (a := 59) (b := 48) rfl rfl rfl ?_
        refine w_p (pc1 := 60) rfl rfl ?_
        refine w_m0 (pc1 := 63) rfl rfl (h_gC rfl rfl rfl rfl) rfl ?_
        refine w_p (pc1 := 64) rfl rfl ?_
        refine w_je (pc1 := 67) (vs := [.ref 106, .long (vl B n i)]) (rest := []) (st1 := [.int (trF tr (vl B n i))]) (m_34 (d := d + 6) (sl := 0) hT) rfl rfl rfl (fun _ _ => rfl) rfl (by exact cl_v my_34 rfl rfl rfl (Nat.le_of_ble_eq_true rfl) rfl (MH_obj rfl rfl) rfl (by decide) rfl rfl) (by rfl) (Nat.le_of_ble_eq_true rfl) (Nat.le_of_ble_eq_true rfl) rfl (by rfl) ?_
        refine w_p (pc1 := 68) (st1 := .int (-1) :: _) rfl rfl ?_
        refine w_t (a := 79) (b := 71) (cb_eq_t (by exact hf)) rfl rfl ?_
        refine w_p (pc1 := 81) rfl rfl ?_
        refine w_t (a := 94) (b := 84) rfl rfl rfl ?_
        refine w_p (pc1 := 95) rfl rfl ?_
        refine w_m0 (pc1 := 98) rfl rfl (h_gC rfl rfl rfl rfl) rfl ?_
        refine w_je (pc1 := 101) (vs := [.ref 106]) (rest := []) (st1 := [.int (trN tr)]) (h36) rfl rfl rfl (fun _ _ => rfl) rfl (by exact cl_v my_36 rfl rfl rfl (Nat.le_of_ble_eq_true rfl) rfl (MH_obj rfl rfl) rfl (by decide) rfl rfl) (by rfl) (Nat.le_of_ble_eq_true rfl) (Nat.le_of_ble_eq_true rfl) rfl (by rfl) ?_
        refine w_p (pc1 := 102) (st1 := .int (-1) :: _) rfl rfl ?_
        refine w_f (a := 114) (b := 105) (cb_ne_f (by exact hg)) rfl rfl ?_
        refine w_p (pc1 := 106) rfl rfl ?_
        refine w_m0 (pc1 := 109) rfl rfl (h_gC rfl rfl rfl rfl) rfl ?_
        refine w_p (pc1 := 111) (st1 := .int 6 :: _) rfl rfl ?_
        refine w_ji (pc1 := 114) (vs := [.ref 101, .int 6]) (rest := []) (m_31 (d := d) (sl := 0) (c := 6) S) rfl rfl rfl (fun _ _ => rfl) rfl (by exact cl_v my_31 rfl rfl rfl (Nat.le_of_ble_eq_true rfl) rfl (MH_obj rfl rfl) rfl (by decide) rfl rfl) (by rfl) (Nat.le_of_ble_eq_true rfl) (Nat.le_of_ble_eq_true rfl) rfl (fun v h1 d1 hq => ?_) (fun a h1 d1 hq => ?_)
        · exact hq.elim
        · rcases hq with ⟨ha, hh, hn⟩
          · subst ha; subst hh; subst hn
            refine Or.inl ⟨ch_new (by decide) rfl, ?_⟩
            refine ⟨6, i, ⟨er, S⟩, rfl, ?_, rfl⟩
            with_reducible rfl
      · have er : rNew (tkP B n) (trF tr) (trN tr) i = .inr (vl B n i, i + 1) := by
          unfold rNew
          rw [if_pos h3', if_pos hf', if_neg hg]
          rfl
        refine w_p (pc1 := 1) rfl rfl ?_
        refine w_m0 (pc1 := 4) rfl rfl (h_gC rfl rfl rfl rfl) rfl ?_
        refine w_m0 (pc1 := 7) (st1 := .ref (kd B n i) :: _) rfl rfl (h_gRs (j := 6) rfl rfl rfl rfl rfl (tkS_tok S)) rfl ?_
        refine w_m0 (pc1 := 10) (st1 := .ref 3 :: _) rfl rfl rfl rfl ?_
        refine w_ae_y (A := 21) (ok_kd) (by decide) (h3) rfl rfl ?_
        refine w_p (pc1 := 22) rfl rfl ?_
        refine w_m0 (pc1 := 25) rfl rfl (h_gC rfl rfl rfl rfl) rfl ?_
        refine w_m0 (pc1 := 28) (st1 := .long (vl B n i) :: _) rfl rfl (h_gJe (j := 8) rfl rfl rfl rfl rfl (S.2.2.2.2.2.2.2)) rfl ?_
        refine w_p (pc1 := 29) (al1 := [(2, .long (vl B n i)), (0, .ref 120), (1, .ref 39)]) rfl rfl ?_
        refine w_p (pc1 := 30) rfl rfl ?_
        refine w_m0 (pc1 := 33) (st1 := .ref 37 :: _) rfl rfl rfl rfl ?_
        refine w_t (a := 40) (b := 36) rfl rfl rfl ?_
        refine w_p (pc1 := 41) (st1 := .int 0 :: _) rfl rfl ?_
        refine w_p (pc1 := 43) (al1 := [(4, .int 0), (2, .long (vl B n i)), (0, .ref 120), (1, .ref 39)]) rfl rfl ?_
        refine w_p (pc1 := 45) rfl rfl ?_
        refine w_t (a := 59) (b := 48) rfl rfl rfl ?_
        refine w_p (pc1 := 60) rfl rfl ?_
        refine w_m0 (pc1 := 63) rfl rfl (h_gC rfl rfl rfl rfl) rfl ?_
        refine w_p (pc1 := 64) rfl rfl ?_
        refine w_je (pc1 := 67) (vs := [.ref 106, .long (vl B n i)]) (rest := []) (st1 := [.int (trF tr (vl B n i))]) (m_34 (d := d + 6) (sl := 0) hT) rfl rfl rfl (fun _ _ => rfl) rfl (by exact cl_v my_34 rfl rfl rfl (Nat.le_of_ble_eq_true rfl) rfl (MH_obj rfl rfl) rfl (by decide) rfl rfl) (by rfl) (Nat.le_of_ble_eq_true rfl) (Nat.le_of_ble_eq_true rfl) rfl (by rfl) ?_
        refine w_p (pc1 := 68) (st1 := .int (-1) :: _) rfl rfl ?_
        refine w_t (a := 79) (b := 71) (cb_eq_t (by exact hf)) rfl rfl ?_
        refine w_p (pc1 := 81) rfl rfl ?_
        refine w_t (a := 94) (b := 84) rfl rfl rfl ?_
        refine w_p (pc1 := 95) rfl rfl ?_
        refine w_m0 (pc1 := 98) rfl rfl (h_gC rfl rfl rfl rfl) rfl ?_
        refine w_je (pc1 := 101) (vs := [.ref 106]) (rest := []) (st1 := [.int (trN tr)]) (h36) rfl rfl rfl (fun _ _ => rfl) rfl (by exact cl_v my_36 rfl rfl rfl (Nat.le_of_ble_eq_true rfl) rfl (MH_obj rfl rfl) rfl (by decide) rfl rfl) (by rfl) (Nat.le_of_ble_eq_true rfl) (Nat.le_of_ble_eq_true rfl) rfl (by rfl) ?_
        refine w_p (pc1 := 102) (st1 := .int (-1) :: _) rfl rfl ?_
        refine w_t (a := 114) (b := 105) (cb_ne_t (by exact hg)) rfl rfl ?_
        refine w_p (pc1 := 115) rfl rfl ?_
        refine w_m0 (pc1 := 118) rfl rfl (h_gC rfl rfl rfl rfl) rfl ?_
        refine w_je (pc1 := 121) (vs := [.ref 101]) (rest := []) (st1 := []) (m_21s (d := d + 6) (sl := 0) S (by rw [h3]; decide) (by rw [h3]; decide)) rfl rfl rfl (fun _ _ => rfl) rfl (by exact cl_v my_21 rfl rfl rfl (Nat.le_of_ble_eq_true rfl) rfl (MH_obj rfl rfl) rfl (by decide) rfl rfl) (by rfl) (Nat.le_of_ble_eq_true rfl) (Nat.le_of_ble_eq_true rfl) rfl (by rfl) ?_
        refine w_p (pc1 := 122) rfl rfl ?_
        refine w_r rfl rfl rfl (fun _ _ => rfl) rfl ?_
        refine ⟨_, i + 1, nxT B n C i, ⟨er, rfl, nxT_S S (by rw [h3]; decide) (by rw [h3]; decide), nxT_fr⟩, ?_, rfl⟩
        with_reducible rfl
    · have hf' : ¬ ((trF tr) ((tkP B n).2 i) = -1) := hf
      have er : rNew (tkP B n) (trF tr) (trN tr) i = .inl (3, i) := by
        unfold rNew
        rw [if_pos h3', if_neg hf']
      refine w_p (pc1 := 1) rfl rfl ?_
      refine w_m0 (pc1 := 4) rfl rfl (h_gC rfl rfl rfl rfl) rfl ?_
      refine w_m0 (pc1 := 7) (st1 := .ref (kd B n i) :: _) rfl rfl (h_gRs (j := 6) rfl rfl rfl rfl rfl (tkS_tok S)) rfl ?_
      refine w_m0 (pc1 := 10) (st1 := .ref 3 :: _) rfl rfl rfl rfl ?_
      refine w_ae_y (A := 21) (ok_kd) (by decide) (h3) rfl rfl ?_
      refine w_p (pc1 := 22) rfl rfl ?_
      refine w_m0 (pc1 := 25) rfl rfl (h_gC rfl rfl rfl rfl) rfl ?_
      refine w_m0 (pc1 := 28) (st1 := .long (vl B n i) :: _) rfl rfl (h_gJe (j := 8) rfl rfl rfl rfl rfl (S.2.2.2.2.2.2.2)) rfl ?_
      refine w_p (pc1 := 29) (al1 := [(2, .long (vl B n i)), (0, .ref 120), (1, .ref 39)]) rfl rfl ?_
      refine w_p (pc1 := 30) rfl rfl ?_
      refine w_m0 (pc1 := 33) (st1 := .ref 37 :: _) rfl rfl rfl rfl ?_
      refine w_t (a := 40) (b := 36) rfl rfl rfl ?_
      refine w_p (pc1 := 41) (st1 := .int 0 :: _) rfl rfl ?_
      refine w_p (pc1 := 43) (al1 := [(4, .int 0), (2, .long (vl B n i)), (0, .ref 120), (1, .ref 39)]) rfl rfl ?_
      refine w_p (pc1 := 45) rfl rfl ?_
      refine w_t (a := 59) (b := 48) rfl rfl rfl ?_
      refine w_p (pc1 := 60) rfl rfl ?_
      refine w_m0 (pc1 := 63) rfl rfl (h_gC rfl rfl rfl rfl) rfl ?_
      refine w_p (pc1 := 64) rfl rfl ?_
      refine w_je (pc1 := 67) (vs := [.ref 106, .long (vl B n i)]) (rest := []) (st1 := [.int (trF tr (vl B n i))]) (m_34 (d := d + 6) (sl := 0) hT) rfl rfl rfl (fun _ _ => rfl) rfl (by exact cl_v my_34 rfl rfl rfl (Nat.le_of_ble_eq_true rfl) rfl (MH_obj rfl rfl) rfl (by decide) rfl rfl) (by rfl) (Nat.le_of_ble_eq_true rfl) (Nat.le_of_ble_eq_true rfl) rfl (by rfl) ?_
      refine w_p (pc1 := 68) (st1 := .int (-1) :: _) rfl rfl ?_
      refine w_f (a := 79) (b := 71) (cb_eq_f (by exact hf)) rfl rfl ?_
      refine w_p (pc1 := 72) rfl rfl ?_
      refine w_m0 (pc1 := 75) rfl rfl (h_gC rfl rfl rfl rfl) rfl ?_
      refine w_p (pc1 := 76) (st1 := .int 3 :: _) rfl rfl ?_
      refine w_ji (pc1 := 79) (vs := [.ref 101, .int 3]) (rest := []) (m_31 (d := d) (sl := 0) (c := 3) S) rfl rfl rfl (fun _ _ => rfl) rfl (by exact cl_v my_31 rfl rfl rfl (Nat.le_of_ble_eq_true rfl) rfl (MH_obj rfl rfl) rfl (by decide) rfl rfl) (by rfl) (Nat.le_of_ble_eq_true rfl) (Nat.le_of_ble_eq_true rfl) rfl (fun v h1 d1 hq => ?_) (fun a h1 d1 hq => ?_)
      · exact hq.elim
      · rcases hq with ⟨ha, hh, hn⟩
        · subst ha; subst hh; subst hn
          refine Or.inl ⟨ch_new (by decide) rfl, ?_⟩
          refine ⟨3, i, ⟨er, S⟩, rfl, ?_, rfl⟩
          with_reducible rfl
  · have h3' : ¬ ((tkP B n).1 i = 3) := h3
    have er : rNew (tkP B n) (trF tr) (trN tr) i = .inl (2, i) := if_neg h3'
    refine w_p (pc1 := 1) rfl rfl ?_
    refine w_m0 (pc1 := 4) rfl rfl (h_gC rfl rfl rfl rfl) rfl ?_
    refine w_m0 (pc1 := 7) (st1 := .ref (kd B n i) :: _) rfl rfl (h_gRs (j := 6) rfl rfl rfl rfl rfl (tkS_tok S)) rfl ?_
    refine w_m0 (pc1 := 10) (st1 := .ref 3 :: _) rfl rfl rfl rfl ?_
    refine w_ae_n (A := 21) (Bn := 13) (ok_kd) (by decide) (h3) rfl rfl rfl ?_
    refine w_p (pc1 := 14) rfl rfl ?_
    refine w_m0 (pc1 := 17) rfl rfl (h_gC rfl rfl rfl rfl) rfl ?_
    refine w_p (pc1 := 18) (st1 := .int 2 :: _) rfl rfl ?_
    refine w_ji (pc1 := 21) (vs := [.ref 101, .int 2]) (rest := []) (m_31 (d := d) (sl := 0) (c := 2) S) rfl rfl rfl (fun _ _ => rfl) rfl (by exact cl_v my_31 rfl rfl rfl (Nat.le_of_ble_eq_true rfl) rfl (MH_obj rfl rfl) rfl (by decide) rfl rfl) (by rfl) (Nat.le_of_ble_eq_true rfl) (Nat.le_of_ble_eq_true rfl) rfl (fun v h1 d1 hq => ?_) (fun a h1 d1 hq => ?_)
    · exact hq.elim
    · rcases hq with ⟨ha, hh, hn⟩
      · subst ha; subst hh; subst hn
        refine Or.inl ⟨ch_new (by decide) rfl, ?_⟩
        refine ⟨2, i, ⟨er, S⟩, rfl, ?_, rfl⟩
        with_reducible rfl
set_option maxRecDepth 100000 in
theorem m_30t (S : tkS B n m C i) (hS : SCK C sc) : Wd L xs (d + 7) y_30 (0, [(0, .ref 120), (1, .ref 37)], [], MH C t, sl) (PN B n m C t sl (rNew (tkP B n) (tbF sc.1) (tbN sc.1) i) (fun v r => some (.long v) = r)) (XN B n m C t sl (rNew (tkP B n) (tbF sc.1) (tbN sc.1) i)) := by
  have h35 := m_35 (L := L) (xs := xs) (C := C) (t := t) (d := d + 5) (sl := 0)
  rw [tbN_K hS] at h35
  have h32 := m_32 (L := L) (xs := xs) (C := C) (t := t) (d := d + 5) (sl := 0) (a := vl B n i)
  rw [tbF_K hS] at h32
  by_cases h3 : kd B n i = 3
  · have h3' : (tkP B n).1 i = 3 := h3
    by_cases hf : tbF sc.1 (vl B n i) = -1
    · have hf' : (tbF sc.1) ((tkP B n).2 i) = -1 := hf
      by_cases hg : tbN sc.1 = -1
      · have er : rNew (tkP B n) (tbF sc.1) (tbN sc.1) i = .inl (6, i) := by
          unfold rNew
          rw [if_pos h3', if_pos hf', if_pos hg]
        refine w_p (pc1 := 1) rfl rfl ?_
        refine w_m0 (pc1 := 4) rfl rfl (h_gC rfl rfl rfl rfl) rfl ?_
        refine w_m0 (pc1 := 7) (st1 := .ref (kd B n i) :: _) rfl rfl (h_gRs (j := 6) rfl rfl rfl rfl rfl (tkS_tok S)) rfl ?_
        refine w_m0 (pc1 := 10) (st1 := .ref 3 :: _) rfl rfl rfl rfl ?_
        refine w_ae_y (A := 21) (ok_kd) (by decide) (h3) rfl rfl ?_
        refine w_p (pc1 := 22) rfl rfl ?_
        refine w_m0 (pc1 := 25) rfl rfl (h_gC rfl rfl rfl rfl) rfl ?_
        refine w_m0 (pc1 := 28) (st1 := .long (vl B n i) :: _) rfl rfl (h_gJe (j := 8) rfl rfl rfl rfl rfl (S.2.2.2.2.2.2.2)) rfl ?_
        refine w_p (pc1 := 29) (al1 := [(2, .long (vl B n i)), (0, .ref 120), (1, .ref 37)]) rfl rfl ?_
        refine w_p (pc1 := 30) rfl rfl ?_
        refine w_m0 (pc1 := 33) (st1 := .ref 37 :: _) rfl rfl rfl rfl ?_
        refine w_f (a := 40) (b := 36) rfl rfl rfl ?_
        refine w_p (pc1 := 37) (st1 := .int 1 :: _) rfl rfl ?_
        refine w_p (pc1 := 41) rfl rfl ?_
        refine w_p (pc1 := 43) (al1 := [(4, .int 1), (2, .long (vl B n i)), (0, .ref 120), (1, .ref 37)]) rfl rfl ?_
        refine w_p (pc1 := 45) rfl rfl ?_
        refine w_f (a := 59) (b := 48) rfl rfl rfl ?_
        refine w_p (pc1 := 49) rfl rfl ?_
        refine w_m0 (pc1 := 52) rfl rfl (h_gC rfl rfl rfl rfl) rfl ?_
        refine w_p (pc1 := 53) rfl rfl ?_
        refine w_je (pc1 := 56) (vs := [.ref 106, .long (vl B n i)]) (rest := []) (st1 := [.int (tbF sc.1 (vl B n i))]) (h32) rfl rfl rfl (fun _ _ => rfl) rfl (by exact cl_v my_32 rfl rfl rfl (Nat.le_of_ble_eq_true rfl) rfl (MH_obj rfl rfl) rfl (by decide) rfl rfl) (by rfl) (Nat.le_of_ble_eq_true rfl) (Nat.le_of_ble_eq_true rfl) rfl (by rfl) ?_
        refine w_p (pc1 := 67) rfl rfl ?_
        refine w_p (pc1 := 68) (st1 := .int (-1) :: _) rfl rfl ?_
        refine w_t (a := 79) (b := 71) (cb_eq_t (by exact hf)) rfl rfl ?_
        refine w_p (pc1 := 81) rfl rfl ?_
        refine w_f (a := 94) (b := 84) rfl rfl rfl ?_
        refine w_p (pc1 := 85) rfl rfl ?_
        refine w_m0 (pc1 := 88) rfl rfl (h_gC rfl rfl rfl rfl) rfl ?_
        refine w_je (pc1 := 91) (vs := [.ref 106]) (rest := []) (st1 := [.int (tbN sc.1)]) (h35) rfl rfl rfl (fun _ _ => rfl) rfl (by exact cl_v my_35 rfl rfl rfl (Nat.le_of_ble_eq_true rfl) rfl (MH_obj rfl rfl) rfl (by decide) rfl rfl) (by rfl) (Nat.le_of_ble_eq_true rfl) (Nat.le_of_ble_eq_true rfl) rfl (by rfl) ?_
        refine w_p (pc1 := 101) rfl rfl ?_
        refine w_p (pc1 := 102) (st1 := .int (-1) :: _) rfl rfl ?_
        refine w_f (a := 114) (b := 105) (cb_ne_f (by exact hg)) rfl rfl ?_
        refine w_p (pc1 := 106) rfl rfl ?_
        refine w_m0 (pc1 := 109) rfl rfl (h_gC rfl rfl rfl rfl) rfl ?_
        refine w_p (pc1 := 111) (st1 := .int 6 :: _) rfl rfl ?_
        refine w_ji (pc1 := 114) (vs := [.ref 101, .int 6]) (rest := []) (m_31 (d := d) (sl := 0) (c := 6) S) rfl rfl rfl (fun _ _ => rfl) rfl (by exact cl_v my_31 rfl rfl rfl (Nat.le_of_ble_eq_true rfl) rfl (MH_obj rfl rfl) rfl (by decide) rfl rfl) (by rfl) (Nat.le_of_ble_eq_true rfl) (Nat.le_of_ble_eq_true rfl) rfl (fun v h1 d1 hq => ?_) (fun a h1 d1 hq => ?_)
        · exact hq.elim
        · rcases hq with ⟨ha, hh, hn⟩
          · subst ha; subst hh; subst hn
            refine Or.inl ⟨ch_new (by decide) rfl, ?_⟩
            refine ⟨6, i, ⟨er, S⟩, rfl, ?_, rfl⟩
            with_reducible rfl
      · have er : rNew (tkP B n) (tbF sc.1) (tbN sc.1) i = .inr (vl B n i, i + 1) := by
          unfold rNew
          rw [if_pos h3', if_pos hf', if_neg hg]
          rfl
        refine w_p (pc1 := 1) rfl rfl ?_
        refine w_m0 (pc1 := 4) rfl rfl (h_gC rfl rfl rfl rfl) rfl ?_
        refine w_m0 (pc1 := 7) (st1 := .ref (kd B n i) :: _) rfl rfl (h_gRs (j := 6) rfl rfl rfl rfl rfl (tkS_tok S)) rfl ?_
        refine w_m0 (pc1 := 10) (st1 := .ref 3 :: _) rfl rfl rfl rfl ?_
        refine w_ae_y (A := 21) (ok_kd) (by decide) (h3) rfl rfl ?_
        refine w_p (pc1 := 22) rfl rfl ?_
        refine w_m0 (pc1 := 25) rfl rfl (h_gC rfl rfl rfl rfl) rfl ?_
        refine w_m0 (pc1 := 28) (st1 := .long (vl B n i) :: _) rfl rfl (h_gJe (j := 8) rfl rfl rfl rfl rfl (S.2.2.2.2.2.2.2)) rfl ?_
        refine w_p (pc1 := 29) (al1 := [(2, .long (vl B n i)), (0, .ref 120), (1, .ref 37)]) rfl rfl ?_
        refine w_p (pc1 := 30) rfl rfl ?_
        refine w_m0 (pc1 := 33) (st1 := .ref 37 :: _) rfl rfl rfl rfl ?_
        refine w_f (a := 40) (b := 36) rfl rfl rfl ?_
        refine w_p (pc1 := 37) (st1 := .int 1 :: _) rfl rfl ?_
        refine w_p (pc1 := 41) rfl rfl ?_
        refine w_p (pc1 := 43) (al1 := [(4, .int 1), (2, .long (vl B n i)), (0, .ref 120), (1, .ref 37)]) rfl rfl ?_
        refine w_p (pc1 := 45) rfl rfl ?_
        refine w_f (a := 59) (b := 48) rfl rfl rfl ?_
        refine w_p (pc1 := 49) rfl rfl ?_
        refine w_m0 (pc1 := 52) rfl rfl (h_gC rfl rfl rfl rfl) rfl ?_
        refine w_p (pc1 := 53) rfl rfl ?_
        refine w_je (pc1 := 56) (vs := [.ref 106, .long (vl B n i)]) (rest := []) (st1 := [.int (tbF sc.1 (vl B n i))]) (h32) rfl rfl rfl (fun _ _ => rfl) rfl (by exact cl_v my_32 rfl rfl rfl (Nat.le_of_ble_eq_true rfl) rfl (MH_obj rfl rfl) rfl (by decide) rfl rfl) (by rfl) (Nat.le_of_ble_eq_true rfl) (Nat.le_of_ble_eq_true rfl) rfl (by rfl) ?_
        refine w_p (pc1 := 67) rfl rfl ?_
        refine w_p (pc1 := 68) (st1 := .int (-1) :: _) rfl rfl ?_
        refine w_t (a := 79) (b := 71) (cb_eq_t (by exact hf)) rfl rfl ?_
        refine w_p (pc1 := 81) rfl rfl ?_
        refine w_f (a := 94) (b := 84) rfl rfl rfl ?_
        refine w_p (pc1 := 85) rfl rfl ?_
        refine w_m0 (pc1 := 88) rfl rfl (h_gC rfl rfl rfl rfl) rfl ?_
        refine w_je (pc1 := 91) (vs := [.ref 106]) (rest := []) (st1 := [.int (tbN sc.1)]) (h35) rfl rfl rfl (fun _ _ => rfl) rfl (by exact cl_v my_35 rfl rfl rfl (Nat.le_of_ble_eq_true rfl) rfl (MH_obj rfl rfl) rfl (by decide) rfl rfl) (by rfl) (Nat.le_of_ble_eq_true rfl) (Nat.le_of_ble_eq_true rfl) rfl (by rfl) ?_
        refine w_p (pc1 := 101) rfl rfl ?_
        refine w_p (pc1 := 102) (st1 := .int (-1) :: _) rfl rfl ?_
        refine w_t (a := 114) (b := 105) (cb_ne_t (by exact hg)) rfl rfl ?_
        refine w_p (pc1 := 115) rfl rfl ?_
        refine w_m0 (pc1 := 118) rfl rfl (h_gC rfl rfl rfl rfl) rfl ?_
        refine w_je (pc1 := 121) (vs := [.ref 101]) (rest := []) (st1 := []) (m_21s (d := d + 6) (sl := 0) S (by rw [h3]; decide) (by rw [h3]; decide)) rfl rfl rfl (fun _ _ => rfl) rfl (by exact cl_v my_21 rfl rfl rfl (Nat.le_of_ble_eq_true rfl) rfl (MH_obj rfl rfl) rfl (by decide) rfl rfl) (by rfl) (Nat.le_of_ble_eq_true rfl) (Nat.le_of_ble_eq_true rfl) rfl (by rfl) ?_
        refine w_p (pc1 := 122) rfl rfl ?_
        refine w_r rfl rfl rfl (fun _ _ => rfl) rfl ?_
        refine ⟨_, i + 1, nxT B n C i, ⟨er, rfl, nxT_S S (by rw [h3]; decide) (by rw [h3]; decide), nxT_fr⟩, ?_, rfl⟩
        with_reducible rfl
    · have hf' : ¬ ((tbF sc.1) ((tkP B n).2 i) = -1) := hf
      have er : rNew (tkP B n) (tbF sc.1) (tbN sc.1) i = .inl (3, i) := by
        unfold rNew
        rw [if_pos h3', if_neg hf']
      refine w_p (pc1 := 1) rfl rfl ?_
      refine w_m0 (pc1 := 4) rfl rfl (h_gC rfl rfl rfl rfl) rfl ?_
      refine w_m0 (pc1 := 7) (st1 := .ref (kd B n i) :: _) rfl rfl (h_gRs (j := 6) rfl rfl rfl rfl rfl (tkS_tok S)) rfl ?_
      refine w_m0 (pc1 := 10) (st1 := .ref 3 :: _) rfl rfl rfl rfl ?_
      refine w_ae_y (A := 21) (ok_kd) (by decide) (h3) rfl rfl ?_
      refine w_p (pc1 := 22) rfl rfl ?_
      refine w_m0 (pc1 := 25) rfl rfl (h_gC rfl rfl rfl rfl) rfl ?_
      refine w_m0 (pc1 := 28) (st1 := .long (vl B n i) :: _) rfl rfl (h_gJe (j := 8) rfl rfl rfl rfl rfl (S.2.2.2.2.2.2.2)) rfl ?_
      refine w_p (pc1 := 29) (al1 := [(2, .long (vl B n i)), (0, .ref 120), (1, .ref 37)]) rfl rfl ?_
      refine w_p (pc1 := 30) rfl rfl ?_
      refine w_m0 (pc1 := 33) (st1 := .ref 37 :: _) rfl rfl rfl rfl ?_
      refine w_f (a := 40) (b := 36) rfl rfl rfl ?_
      refine w_p (pc1 := 37) (st1 := .int 1 :: _) rfl rfl ?_
      refine w_p (pc1 := 41) rfl rfl ?_
      refine w_p (pc1 := 43) (al1 := [(4, .int 1), (2, .long (vl B n i)), (0, .ref 120), (1, .ref 37)]) rfl rfl ?_
      refine w_p (pc1 := 45) rfl rfl ?_
      refine w_f (a := 59) (b := 48) rfl rfl rfl ?_
      refine w_p (pc1 := 49) rfl rfl ?_
      refine w_m0 (pc1 := 52) rfl rfl (h_gC rfl rfl rfl rfl) rfl ?_
      refine w_p (pc1 := 53) rfl rfl ?_
      refine w_je (pc1 := 56) (vs := [.ref 106, .long (vl B n i)]) (rest := []) (st1 := [.int (tbF sc.1 (vl B n i))]) (h32) rfl rfl rfl (fun _ _ => rfl) rfl (by exact cl_v my_32 rfl rfl rfl (Nat.le_of_ble_eq_true rfl) rfl (MH_obj rfl rfl) rfl (by decide) rfl rfl) (by rfl) (Nat.le_of_ble_eq_true rfl) (Nat.le_of_ble_eq_true rfl) rfl (by rfl) ?_
      refine w_p (pc1 := 67) rfl rfl ?_
      refine w_p (pc1 := 68) (st1 := .int (-1) :: _) rfl rfl ?_
      refine w_f (a := 79) (b := 71) (cb_eq_f (by exact hf)) rfl rfl ?_
      refine w_p (pc1 := 72) rfl rfl ?_
      refine w_m0 (pc1 := 75) rfl rfl (h_gC rfl rfl rfl rfl) rfl ?_
      refine w_p (pc1 := 76) (st1 := .int 3 :: _) rfl rfl ?_
      refine w_ji (pc1 := 79) (vs := [.ref 101, .int 3]) (rest := []) (m_31 (d := d) (sl := 0) (c := 3) S) rfl rfl rfl (fun _ _ => rfl) rfl (by exact cl_v my_31 rfl rfl rfl (Nat.le_of_ble_eq_true rfl) rfl (MH_obj rfl rfl) rfl (by decide) rfl rfl) (by rfl) (Nat.le_of_ble_eq_true rfl) (Nat.le_of_ble_eq_true rfl) rfl (fun v h1 d1 hq => ?_) (fun a h1 d1 hq => ?_)
      · exact hq.elim
      · rcases hq with ⟨ha, hh, hn⟩
        · subst ha; subst hh; subst hn
          refine Or.inl ⟨ch_new (by decide) rfl, ?_⟩
          refine ⟨3, i, ⟨er, S⟩, rfl, ?_, rfl⟩
          with_reducible rfl
  · have h3' : ¬ ((tkP B n).1 i = 3) := h3
    have er : rNew (tkP B n) (tbF sc.1) (tbN sc.1) i = .inl (2, i) := if_neg h3'
    refine w_p (pc1 := 1) rfl rfl ?_
    refine w_m0 (pc1 := 4) rfl rfl (h_gC rfl rfl rfl rfl) rfl ?_
    refine w_m0 (pc1 := 7) (st1 := .ref (kd B n i) :: _) rfl rfl (h_gRs (j := 6) rfl rfl rfl rfl rfl (tkS_tok S)) rfl ?_
    refine w_m0 (pc1 := 10) (st1 := .ref 3 :: _) rfl rfl rfl rfl ?_
    refine w_ae_n (A := 21) (Bn := 13) (ok_kd) (by decide) (h3) rfl rfl rfl ?_
    refine w_p (pc1 := 14) rfl rfl ?_
    refine w_m0 (pc1 := 17) rfl rfl (h_gC rfl rfl rfl rfl) rfl ?_
    refine w_p (pc1 := 18) (st1 := .int 2 :: _) rfl rfl ?_
    refine w_ji (pc1 := 21) (vs := [.ref 101, .int 2]) (rest := []) (m_31 (d := d) (sl := 0) (c := 2) S) rfl rfl rfl (fun _ _ => rfl) rfl (by exact cl_v my_31 rfl rfl rfl (Nat.le_of_ble_eq_true rfl) rfl (MH_obj rfl rfl) rfl (by decide) rfl rfl) (by rfl) (Nat.le_of_ble_eq_true rfl) (Nat.le_of_ble_eq_true rfl) rfl (fun v h1 d1 hq => ?_) (fun a h1 d1 hq => ?_)
    · exact hq.elim
    · rcases hq with ⟨ha, hh, hn⟩
      · subst ha; subst hh; subst hn
        refine Or.inl ⟨ch_new (by decide) rfl, ?_⟩
        refine ⟨2, i, ⟨er, S⟩, rfl, ?_, rfl⟩
        with_reducible rfl
set_option maxRecDepth 100000 in
theorem m_88n {a : Int64} {x y z : Int32} (h0 : t[k]? = some (.inr (10, [.long 0, .int 0, .int 0, .int 0, .null, .null]))) : Wd L xs (d + 1) y_88 (0, [(0, .ref (241 + k)), (1, .long a), (3, .int x), (4, .int y), (5, .int z), (6, .null), (7, .ref w)], [], MH C t, sl) (fun r h q => none = r ∧ (∃ t', (t'[k]? = some (.inr (10, [.long a, .int x, .int y, .int z, .null, .ref w])) ∧ t'.length = t.length ∧ ∀ j x, j ≠ k → t[j]? = some x → t'[j]? = some x) ∧ MH C t' = h) ∧ sl = q) nX := by
  refine w_p (pc1 := 1) rfl rfl ?_
  refine w_c (pc1 := 4) rfl rfl rfl (fun fr lo h1 h2 => n_oi rfl (Nat.le_of_ble_eq_true rfl) h1 h2) rfl ?_
  refine w_p (pc1 := 5) rfl rfl ?_
  refine w_p (pc1 := 6) rfl rfl ?_
  refine w_m0 (pc1 := 9) rfl rfl (x_pf (k := k) (fs' := [.long (a), .int 0, .int 0, .int 0, .null, .null]) rfl h0 rfl rfl ⟨rfl, rfl⟩ (Or.inr ⟨rfl, rfl, rfl⟩) (Nat.le_of_ble_eq_true rfl) rfl) rfl ?_
  obtain ⟨t2, e2, g2, p2, l2⟩ := tl_st h0 (.inr (10, [.long a, .int 0, .int 0, .int 0, .null, .null]))
  rw [e2]
  refine w_p (pc1 := 10) rfl rfl ?_
  refine w_p (pc1 := 11) rfl rfl ?_
  refine w_m0 (pc1 := 14) rfl rfl (x_pf (k := k) (fs' := [.long (a), .int (x), .int 0, .int 0, .null, .null]) rfl g2 rfl rfl ⟨rfl, rfl⟩ (Or.inr ⟨rfl, rfl, rfl⟩) (Nat.le_of_ble_eq_true rfl) rfl) rfl ?_
  obtain ⟨t3, e3, g3, p3, l3⟩ := tl_st g2 (.inr (10, [.long a, .int x, .int 0, .int 0, .null, .null]))
  rw [e3]
  refine w_p (pc1 := 15) rfl rfl ?_
  refine w_p (pc1 := 17) rfl rfl ?_
  refine w_m0 (pc1 := 20) rfl rfl (x_pf (k := k) (fs' := [.long (a), .int (x), .int (y), .int 0, .null, .null]) rfl g3 rfl rfl ⟨rfl, rfl⟩ (Or.inr ⟨rfl, rfl, rfl⟩) (Nat.le_of_ble_eq_true rfl) rfl) rfl ?_
  obtain ⟨t4, e4, g4, p4, l4⟩ := tl_st g3 (.inr (10, [.long a, .int x, .int y, .int 0, .null, .null]))
  rw [e4]
  refine w_p (pc1 := 21) rfl rfl ?_
  refine w_p (pc1 := 23) rfl rfl ?_
  refine w_m0 (pc1 := 26) rfl rfl (x_pf (k := k) (fs' := [.long (a), .int (x), .int (y), .int (z), .null, .null]) rfl g4 rfl rfl ⟨rfl, rfl⟩ (Or.inr ⟨rfl, rfl, rfl⟩) (Nat.le_of_ble_eq_true rfl) rfl) rfl ?_
  obtain ⟨t5, e5, g5, p5, l5⟩ := tl_st g4 (.inr (10, [.long a, .int x, .int y, .int z, .null, .null]))
  rw [e5]
  refine w_p (pc1 := 27) rfl rfl ?_
  refine w_p (pc1 := 29) rfl rfl ?_
  refine w_m0 (pc1 := 32) rfl rfl (x_pf (k := k) (fs' := [.long (a), .int (x), .int (y), .int (z), .null, .null]) rfl g5 rfl rfl ⟨rfl, rfl⟩ (Or.inr ⟨rfl, rfl, rfl⟩) (Nat.le_of_ble_eq_true rfl) rfl) rfl ?_
  obtain ⟨t6, e6, g6, p6, l6⟩ := tl_st g5 (.inr (10, [.long a, .int x, .int y, .int z, .null, .null]))
  rw [e6]
  refine w_p (pc1 := 33) rfl rfl ?_
  refine w_p (pc1 := 35) rfl rfl ?_
  refine w_m0 (pc1 := 38) rfl rfl (x_pf (k := k) (fs' := [.long (a), .int (x), .int (y), .int (z), .null, .ref (w)]) rfl g6 rfl rfl ⟨rfl, rfl⟩ (Or.inr ⟨rfl, rfl, rfl⟩) (Nat.le_of_ble_eq_true rfl) rfl) rfl ?_
  obtain ⟨t7, e7, g7, p7, l7⟩ := tl_st g6 (.inr (10, [.long a, .int x, .int y, .int z, .null, .ref w]))
  rw [e7]
  refine w_r rfl rfl rfl (fun _ _ => rfl) rfl ?_
  refine ⟨rfl, ⟨t7, ⟨g7, by omega, fun j x hj h => p7 _ _ hj (p6 _ _ hj (p5 _ _ hj (p4 _ _ hj (p3 _ _ hj (p2 _ _ hj h)))))⟩, ?_⟩, rfl⟩
  with_reducible rfl
set_option maxRecDepth 100000 in
theorem m_88s {a : Int64} {x y z : Int32} {v : Nat} (h0 : t[k]? = some (.inr (10, [.long 0, .int 0, .int 0, .int 0, .null, .null]))) : Wd L xs (d + 1) y_88 (0, [(0, .ref (241 + k)), (1, .long a), (3, .int x), (4, .int y), (5, .int z), (6, .ref v), (7, .ref w)], [], MH C t, sl) (fun r h q => none = r ∧ (∃ t', (t'[k]? = some (.inr (10, [.long a, .int x, .int y, .int z, .ref v, .ref w])) ∧ t'.length = t.length ∧ ∀ j x, j ≠ k → t[j]? = some x → t'[j]? = some x) ∧ MH C t' = h) ∧ sl = q) nX := by
  refine w_p (pc1 := 1) rfl rfl ?_
  refine w_c (pc1 := 4) rfl rfl rfl (fun fr lo h1 h2 => n_oi rfl (Nat.le_of_ble_eq_true rfl) h1 h2) rfl ?_
  refine w_p (pc1 := 5) rfl rfl ?_
  refine w_p (pc1 := 6) rfl rfl ?_
  refine w_m0 (pc1 := 9) rfl rfl (x_pf (k := k) (fs' := [.long (a), .int 0, .int 0, .int 0, .null, .null]) rfl h0 rfl rfl ⟨rfl, rfl⟩ (Or.inr ⟨rfl, rfl, rfl⟩) (Nat.le_of_ble_eq_true rfl) rfl) rfl ?_
  obtain ⟨t2, e2, g2, p2, l2⟩ := tl_st h0 (.inr (10, [.long a, .int 0, .int 0, .int 0, .null, .null]))
  rw [e2]
  refine w_p (pc1 := 10) rfl rfl ?_
  refine w_p (pc1 := 11) rfl rfl ?_
  refine w_m0 (pc1 := 14) rfl rfl (x_pf (k := k) (fs' := [.long (a), .int (x), .int 0, .int 0, .null, .null]) rfl g2 rfl rfl ⟨rfl, rfl⟩ (Or.inr ⟨rfl, rfl, rfl⟩) (Nat.le_of_ble_eq_true rfl) rfl) rfl ?_
  obtain ⟨t3, e3, g3, p3, l3⟩ := tl_st g2 (.inr (10, [.long a, .int x, .int 0, .int 0, .null, .null]))
  rw [e3]
  refine w_p (pc1 := 15) rfl rfl ?_
  refine w_p (pc1 := 17) rfl rfl ?_
  refine w_m0 (pc1 := 20) rfl rfl (x_pf (k := k) (fs' := [.long (a), .int (x), .int (y), .int 0, .null, .null]) rfl g3 rfl rfl ⟨rfl, rfl⟩ (Or.inr ⟨rfl, rfl, rfl⟩) (Nat.le_of_ble_eq_true rfl) rfl) rfl ?_
  obtain ⟨t4, e4, g4, p4, l4⟩ := tl_st g3 (.inr (10, [.long a, .int x, .int y, .int 0, .null, .null]))
  rw [e4]
  refine w_p (pc1 := 21) rfl rfl ?_
  refine w_p (pc1 := 23) rfl rfl ?_
  refine w_m0 (pc1 := 26) rfl rfl (x_pf (k := k) (fs' := [.long (a), .int (x), .int (y), .int (z), .null, .null]) rfl g4 rfl rfl ⟨rfl, rfl⟩ (Or.inr ⟨rfl, rfl, rfl⟩) (Nat.le_of_ble_eq_true rfl) rfl) rfl ?_
  obtain ⟨t5, e5, g5, p5, l5⟩ := tl_st g4 (.inr (10, [.long a, .int x, .int y, .int z, .null, .null]))
  rw [e5]
  refine w_p (pc1 := 27) rfl rfl ?_
  refine w_p (pc1 := 29) rfl rfl ?_
  refine w_m0 (pc1 := 32) rfl rfl (x_pf (k := k) (fs' := [.long (a), .int (x), .int (y), .int (z), .ref (v), .null]) rfl g5 rfl rfl ⟨rfl, rfl⟩ (Or.inr ⟨rfl, rfl, rfl⟩) (Nat.le_of_ble_eq_true rfl) rfl) rfl ?_
  obtain ⟨t6, e6, g6, p6, l6⟩ := tl_st g5 (.inr (10, [.long a, .int x, .int y, .int z, .ref v, .null]))
  rw [e6]
  refine w_p (pc1 := 33) rfl rfl ?_
  refine w_p (pc1 := 35) rfl rfl ?_
  refine w_m0 (pc1 := 38) rfl rfl (x_pf (k := k) (fs' := [.long (a), .int (x), .int (y), .int (z), .ref (v), .ref (w)]) rfl g6 rfl rfl ⟨rfl, rfl⟩ (Or.inr ⟨rfl, rfl, rfl⟩) (Nat.le_of_ble_eq_true rfl) rfl) rfl ?_
  obtain ⟨t7, e7, g7, p7, l7⟩ := tl_st g6 (.inr (10, [.long a, .int x, .int y, .int z, .ref v, .ref w]))
  rw [e7]
  refine w_r rfl rfl rfl (fun _ _ => rfl) rfl ?_
  refine ⟨rfl, ⟨t7, ⟨g7, by omega, fun j x hj h => p7 _ _ hj (p6 _ _ hj (p5 _ _ hj (p4 _ _ hj (p3 _ _ hj (p2 _ _ hj h)))))⟩, ?_⟩, rfl⟩
  with_reducible rfl
end TRI
