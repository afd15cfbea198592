
/-! ONE SIDE: a statement is read, 2: its beginning, its end -/
section RED
variable {L : Nat} {xs : Nat → Int32} {B : Nat → Nat} {n m : Nat} {C C' C0 C1 : co_T} {t t0 t1 : ab_H} {d sl sl0 sl1 i i0 i1 j b e ti k k0 kc ks w c : Nat} {sc : sc_T} {row : Option Nat} {tg : Option (Nat × Nat)} {nl : Option Nat} {kd0 tb0 : Int32} {P : Option Value → ab_H → Nat → Prop} {X : Nat → ab_H → Nat → Prop} {cs : List Nat} {ss : List (Option (List op_T))} {E : fe_T} {tr : Nat → Option tr_T} {ru : Nat → Option ru_T} {T : tb_S}
def vbC (B : Nat → Nat) (n : Nat) (C : co_T) (m : Nat) : co_T := sI (sI (sQ (scS B n C m) 20 3 (some (kd B n 0))) 20 5 (-1)) 20 10 (-1)
def rdC (B : Nat → Nat) (n : Nat) (C : co_T) (m : Nat) (x : Int32) : co_T := bgC (vbC B n C m) x
def isN (k : Nat) : Bool := decide (k = 37) || decide (k = 39)
set_option maxRecDepth 100000 in
theorem vb_3 : (vbC B n C m).2.2 20 3 = some (kd B n 0) := by
  show (sQ (scS B n C m) 20 3 (some (kd B n 0))).2.2 20 3 = _
  rw [sQ_3, if_pos ⟨rfl, rfl⟩]
set_option maxRecDepth 100000 in
theorem vb_q {k j : Nat} (h1 : ¬ (k = 1 ∧ j = 6)) (h2 : k ≠ 3) (h3 : k ≠ 20) : (vbC B n C m).2.2 k j = C.2.2 k j := by
  show (sQ (scS B n C m) 20 3 (some (kd B n 0))).2.2 k j = _
  rw [sQ_3, if_neg (by omega)]
  exact scS_f.2.2 k j h1 h2
set_option maxRecDepth 100000 in
theorem rdC_1 {x : Int32} {k j : Nat} : (rdC B n C m x).1 k j = if k = 21 ∧ j = 10 then 0 else if k = 21 ∧ j = 8 then -1 else if k = 21 ∧ j = 7 then -1 else if k = 21 ∧ j = 6 then x else if k = 20 ∧ j = 10 then -1 else if k = 20 ∧ j = 5 then -1 else (scS B n C m).1 k j := by
  unfold rdC bgC vbC
  rw [sI_1, sI_1, sI_1, sI_1, sI_1, sI_1]
  rfl
set_option maxRecDepth 100000 in
theorem rdC_S {x : Int32} (Tp : tpK C B n) (hm : lst B n m) : tkS B n m (rdC B n C m x) 0 := tkS_g (scS_S Tp hm) (fun k j h => by rw [rdC_1, if_neg (by omega), if_neg (by omega), if_neg (by omega), if_neg (by omega), if_neg (by omega), if_neg (by omega)]) (fun _ _ _ => rfl) (fun k j h => by
  show (sQ (scS B n C m) 20 3 (some (kd B n 0))).2.2 k j = _
  rw [sQ_3, if_neg (by omega)])
set_option maxRecDepth 100000 in
theorem rdC_K {x : Int32} (K : BK C t T) : BK (rdC B n C m x) t T := by
  have K0 := frSc_K (scS_f (B := B) (n := n) (m := m)) K
  refine ⟨⟨K0.1.1, fun b hb => ⟨?_, (K0.1.2 b hb).2.1, (K0.1.2 b hb).2.2⟩⟩, K0.2.1, fun i hi => ?_⟩
  · rw [rdC_1, if_neg (by omega), if_neg (by omega), if_neg (by omega), if_neg (by omega), if_neg (by omega), if_neg (by omega)]
    exact (K0.1.2 b hb).1
  · show opK (RUK t) ((vbC B n C m).2.2 11 i) _
    rw [vb_q (by omega) (by omega) (by omega)]
    exact K.2.2 i hi
set_option maxRecDepth 100000 in
theorem rdC_R {x : Int32} (K : BK C t T) : RX (rdC B n C m x) T.1 none none false := by
  refine ⟨(rdC_K K).1, ⟨?_, fun b h => by cases h⟩, ⟨?_, fun p h => by cases h⟩, ?_⟩
  · rw [rdC_1, if_neg (by omega), if_neg (by omega), if_pos ⟨rfl, rfl⟩]
    rfl
  · rw [rdC_1, if_neg (by omega), if_pos ⟨rfl, rfl⟩]
    rfl
  · rw [rdC_1, if_pos ⟨rfl, rfl⟩]
    rfl
set_option maxRecDepth 100000 in
theorem rdC_G {x : Int32} (hG : TGN C t tr) : TGN (rdC B n C m x) t tr := fun i hi => by
  show opK (TRn t) ((vbC B n C m).2.2 12 i) _
  rw [vb_q (by omega) (by omega) (by omega)]
  exact hG i hi
set_option maxRecDepth 100000 in
theorem d12s (Tp : tpK C B n) (hm : lst B n m) (K : BK C t T) (hG : TGN C t tr) (h6 : ∀ i g, tr i = some g → (aSs (gAc g)).length ≤ 6) (h4 : ndS T.2.2 tr ≤ 400) (H : ∀ x, lfK x (if isN (kd B n 0) = true then some (400 - ndS T.2.2 tr) else none) → x = (if isN (kd B n 0) = true then nI (400 - ndS T.2.2 tr) else -1) → Wd L xs (d + 63) y_12 (60, [(0, .ref 120)], [], MH (rdC B n C m x) t, sl) P X) : Wd L xs (d + 63) y_12 (0, [(0, .ref 120)], [], MH C t, sl) P X := by
  have S0 := scS_S Tp hm
  have hR1 : RLK (vbC B n C m) t T.2.2 := fun i hi => by
    rw [vb_q (by omega) (by omega) (by omega)]
    exact K.2.2 i hi
  have hG1 : TGN (vbC B n C m) t tr := fun i hi => by
    rw [vb_q (by omega) (by omega) (by omega)]
    exact hG i hi
  have hv3 := vb_3 (B := B) (n := n) (C := C) (m := m)
  by_cases h37 : kd B n 0 = 37
  · have hx : isN (kd B n 0) = true := by rw [h37]; rfl
    rw [if_pos hx] at H
    refine w_p (pc1 := 1) rfl rfl ?_
    refine w_m0 (pc1 := 4) rfl rfl (h_gC rfl rfl rfl rfl) rfl ?_
    refine w_je (pc1 := 7) (vs := [.ref 101]) (rest := []) (st1 := []) (m_13s (d := d + 60) (sl := 0) Tp hm) rfl rfl rfl (fun _ _ => rfl) rfl (by exact cl_v my_13 rfl rfl rfl (Nat.le_of_ble_eq_true rfl) rfl (MH_obj rfl rfl) rfl (by decide) rfl rfl) (by rfl) (Nat.le_of_ble_eq_true rfl) (Nat.le_of_ble_eq_true rfl) rfl (by rfl) ?_
    refine w_p (pc1 := 8) rfl rfl ?_
    refine w_p (pc1 := 9) rfl rfl ?_
    refine w_m0 (pc1 := 12) rfl rfl (h_gC rfl rfl rfl rfl) rfl ?_
    refine w_m0 (pc1 := 15) (st1 := .ref (kd B n 0) :: _) rfl rfl (h_gRs (j := 6) rfl rfl rfl rfl rfl (tkS_tok S0)) rfl ?_
    refine w_m0 (pc1 := 18) rfl rfl (h_pR (j := 3) (v := some (kd B n 0)) rfl rfl rfl rfl rfl rfl rfl ⟨rfl, rfl⟩ rfl) rfl ?_
    refine w_p (pc1 := 19) rfl rfl ?_
    refine w_p (pc1 := 20) (st1 := .int (-1) :: _) rfl rfl ?_
    refine w_m0 (pc1 := 23) rfl rfl (h_pI (j := 5) rfl rfl rfl rfl rfl rfl rfl ⟨rfl, rfl⟩ rfl) rfl ?_
    refine w_p (pc1 := 24) rfl rfl ?_
    refine w_p (pc1 := 25) (st1 := .int (-1) :: _) rfl rfl ?_
    refine w_m0 (pc1 := 28) rfl rfl (h_pI (j := 10) rfl rfl rfl rfl rfl rfl rfl ⟨rfl, rfl⟩ rfl) rfl ?_
    show Wd L xs (d + 63) y_12 (28, [(0, .ref 120)], [], MH (vbC B n C m) t, _) P X
    refine w_p (pc1 := 29) rfl rfl ?_
    refine w_m0 (pc1 := 32) rfl rfl (h_gC rfl rfl rfl rfl) rfl ?_
    refine w_p (pc1 := 33) rfl rfl ?_
    refine w_m0 (pc1 := 36) (st1 := .ref (kd B n 0) :: _) rfl rfl (h_gRs (j := 3) rfl rfl rfl rfl rfl (hv3)) rfl ?_
    refine w_m0 (pc1 := 39) (st1 := .ref 37 :: _) rfl rfl rfl rfl ?_
    refine w_ae_y (A := 52) (ok_kd) (by decide) (h37) rfl rfl ?_
    refine w_p (pc1 := 53) (st1 := .int 1 :: _) rfl rfl ?_
    refine w_p (pc1 := 57) rfl rfl ?_
    refine w_je (pc1 := 60) (vs := [.ref 121, .int 1]) (rest := []) (st1 := []) (m_22y (d := d + 58) (sl := 0) hR1 hG1 h6 h4) rfl rfl rfl (fun _ _ => rfl) rfl (by exact cl_v my_22 rfl rfl rfl (Nat.le_of_ble_eq_true rfl) rfl (MH_obj rfl rfl) rfl (by decide) rfl rfl) (by rfl) (Nat.le_of_ble_eq_true rfl) (Nat.le_of_ble_eq_true rfl) rfl (by rfl) ?_
    exact H (nI (400 - ndS T.2.2 tr)) ⟨rfl, by omega⟩ (if_pos hx).symm
  · by_cases h39 : kd B n 0 = 39
    · have hx : isN (kd B n 0) = true := by rw [h39]; rfl
      rw [if_pos hx] at H
      refine w_p (pc1 := 1) rfl rfl ?_
      refine w_m0 (pc1 := 4) rfl rfl (h_gC rfl rfl rfl rfl) rfl ?_
      refine w_je (pc1 := 7) (vs := [.ref 101]) (rest := []) (st1 := []) (m_13s (d := d + 60) (sl := 0) Tp hm) rfl rfl rfl (fun _ _ => rfl) rfl (by exact cl_v my_13 rfl rfl rfl (Nat.le_of_ble_eq_true rfl) rfl (MH_obj rfl rfl) rfl (by decide) rfl rfl) (by rfl) (Nat.le_of_ble_eq_true rfl) (Nat.le_of_ble_eq_true rfl) rfl (by rfl) ?_
      refine w_p (pc1 := 8) rfl rfl ?_
      refine w_p (pc1 := 9) rfl rfl ?_
      refine w_m0 (pc1 := 12) rfl rfl (h_gC rfl rfl rfl rfl) rfl ?_
      refine w_m0 (pc1 := 15) (st1 := .ref (kd B n 0) :: _) rfl rfl (h_gRs (j := 6) rfl rfl rfl rfl rfl (tkS_tok S0)) rfl ?_
      refine w_m0 (pc1 := 18) rfl rfl (h_pR (j := 3) (v := some (kd B n 0)) rfl rfl rfl rfl rfl rfl rfl ⟨rfl, rfl⟩ rfl) rfl ?_
      refine w_p (pc1 := 19) rfl rfl ?_
      refine w_p (pc1 := 20) (st1 := .int (-1) :: _) rfl rfl ?_
      refine w_m0 (pc1 := 23) rfl rfl (h_pI (j := 5) rfl rfl rfl rfl rfl rfl rfl ⟨rfl, rfl⟩ rfl) rfl ?_
      refine w_p (pc1 := 24) rfl rfl ?_
      refine w_p (pc1 := 25) (st1 := .int (-1) :: _) rfl rfl ?_
      refine w_m0 (pc1 := 28) rfl rfl (h_pI (j := 10) rfl rfl rfl rfl rfl rfl rfl ⟨rfl, rfl⟩ rfl) rfl ?_
      show Wd L xs (d + 63) y_12 (28, [(0, .ref 120)], [], MH (vbC B n C m) t, _) P X
      refine w_p (pc1 := 29) rfl rfl ?_
      refine w_m0 (pc1 := 32) rfl rfl (h_gC rfl rfl rfl rfl) rfl ?_
      refine w_p (pc1 := 33) rfl rfl ?_
      refine w_m0 (pc1 := 36) (st1 := .ref (kd B n 0) :: _) rfl rfl (h_gRs (j := 3) rfl rfl rfl rfl rfl (hv3)) rfl ?_
      refine w_m0 (pc1 := 39) (st1 := .ref 37 :: _) rfl rfl rfl rfl ?_
      refine w_ae_n (A := 52) (Bn := 42) (ok_kd) (by decide) (h37) rfl rfl rfl ?_
      refine w_p (pc1 := 43) rfl rfl ?_
      refine w_m0 (pc1 := 46) (st1 := .ref (kd B n 0) :: _) rfl rfl (h_gRs (j := 3) rfl rfl rfl rfl rfl (hv3)) rfl ?_
      refine w_m0 (pc1 := 49) (st1 := .ref 39 :: _) rfl rfl rfl rfl ?_
      refine w_an_y (A := 56) (Bn := 52) (ok_kd) (by decide) (h39) rfl rfl rfl ?_
      refine w_p (pc1 := 53) (st1 := .int 1 :: _) rfl rfl ?_
      refine w_p (pc1 := 57) rfl rfl ?_
      refine w_je (pc1 := 60) (vs := [.ref 121, .int 1]) (rest := []) (st1 := []) (m_22y (d := d + 58) (sl := 0) hR1 hG1 h6 h4) rfl rfl rfl (fun _ _ => rfl) rfl (by exact cl_v my_22 rfl rfl rfl (Nat.le_of_ble_eq_true rfl) rfl (MH_obj rfl rfl) rfl (by decide) rfl rfl) (by rfl) (Nat.le_of_ble_eq_true rfl) (Nat.le_of_ble_eq_true rfl) rfl (by rfl) ?_
      exact H (nI (400 - ndS T.2.2 tr)) ⟨rfl, by omega⟩ (if_pos hx).symm
    · have hx : ¬ (isN (kd B n 0) = true) := by
        unfold isN
        rw [decide_eq_false h37, decide_eq_false h39]
        decide
      rw [if_neg hx] at H
      refine w_p (pc1 := 1) rfl rfl ?_
      refine w_m0 (pc1 := 4) rfl rfl (h_gC rfl rfl rfl rfl) rfl ?_
      refine w_je (pc1 := 7) (vs := [.ref 101]) (rest := []) (st1 := []) (m_13s (d := d + 60) (sl := 0) Tp hm) rfl rfl rfl (fun _ _ => rfl) rfl (by exact cl_v my_13 rfl rfl rfl (Nat.le_of_ble_eq_true rfl) rfl (MH_obj rfl rfl) rfl (by decide) rfl rfl) (by rfl) (Nat.le_of_ble_eq_true rfl) (Nat.le_of_ble_eq_true rfl) rfl (by rfl) ?_
      refine w_p (pc1 := 8) rfl rfl ?_
      refine w_p (pc1 := 9) rfl rfl ?_
      refine w_m0 (pc1 := 12) rfl rfl (h_gC rfl rfl rfl rfl) rfl ?_
      refine w_m0 (pc1 := 15) (st1 := .ref (kd B n 0) :: _) rfl rfl (h_gRs (j := 6) rfl rfl rfl rfl rfl (tkS_tok S0)) rfl ?_
      refine w_m0 (pc1 := 18) rfl rfl (h_pR (j := 3) (v := some (kd B n 0)) rfl rfl rfl rfl rfl rfl rfl ⟨rfl, rfl⟩ rfl) rfl ?_
      refine w_p (pc1 := 19) rfl rfl ?_
      refine w_p (pc1 := 20) (st1 := .int (-1) :: _) rfl rfl ?_
      refine w_m0 (pc1 := 23) rfl rfl (h_pI (j := 5) rfl rfl rfl rfl rfl rfl rfl ⟨rfl, rfl⟩ rfl) rfl ?_
      refine w_p (pc1 := 24) rfl rfl ?_
      refine w_p (pc1 := 25) (st1 := .int (-1) :: _) rfl rfl ?_
      refine w_m0 (pc1 := 28) rfl rfl (h_pI (j := 10) rfl rfl rfl rfl rfl rfl rfl ⟨rfl, rfl⟩ rfl) rfl ?_
      show Wd L xs (d + 63) y_12 (28, [(0, .ref 120)], [], MH (vbC B n C m) t, _) P X
      refine w_p (pc1 := 29) rfl rfl ?_
      refine w_m0 (pc1 := 32) rfl rfl (h_gC rfl rfl rfl rfl) rfl ?_
      refine w_p (pc1 := 33) rfl rfl ?_
      refine w_m0 (pc1 := 36) (st1 := .ref (kd B n 0) :: _) rfl rfl (h_gRs (j := 3) rfl rfl rfl rfl rfl (hv3)) rfl ?_
      refine w_m0 (pc1 := 39) (st1 := .ref 37 :: _) rfl rfl rfl rfl ?_
      refine w_ae_n (A := 52) (Bn := 42) (ok_kd) (by decide) (h37) rfl rfl rfl ?_
      refine w_p (pc1 := 43) rfl rfl ?_
      refine w_m0 (pc1 := 46) (st1 := .ref (kd B n 0) :: _) rfl rfl (h_gRs (j := 3) rfl rfl rfl rfl rfl (hv3)) rfl ?_
      refine w_m0 (pc1 := 49) (st1 := .ref 39 :: _) rfl rfl rfl rfl ?_
      refine w_an_n (A := 56) (ok_kd) (by decide) (h39) rfl rfl ?_
      refine w_p (pc1 := 57) (st1 := .int 0 :: _) rfl rfl ?_
      refine w_je (pc1 := 60) (vs := [.ref 121, .int 0]) (rest := []) (st1 := []) (m_22n (d := d + 58) (sl := 0)) rfl rfl rfl (fun _ _ => rfl) rfl (by exact cl_v my_22 rfl rfl rfl (Nat.le_of_ble_eq_true rfl) rfl (MH_obj rfl rfl) rfl (by decide) rfl rfl) (by rfl) (Nat.le_of_ble_eq_true rfl) (Nat.le_of_ble_eq_true rfl) rfl (by rfl) ?_
      exact H (-1) rfl (if_neg hx).symm
set_option maxRecDepth 100000 in
theorem d12e (S : tkS B n m C i) (HN : kd B n i = 2 → P none (MH C t) sl) (HX : kd B n i ≠ 2 → ∀ a h q, Xk 12 (rfC B n C i 2) t sl a h q → X a h q) : Wd L xs (d + 63) y_12 (203, [(0, .ref 120)], [], MH C t, sl) P X := by
  by_cases h2 : kd B n i = 2
  · skip
    refine w_p (pc1 := 204) rfl rfl ?_
    refine w_m0 (pc1 := 207) rfl rfl (h_gC rfl rfl rfl rfl) rfl ?_
    refine w_m0 (pc1 := 210) (st1 := .ref (kd B n i) :: _) rfl rfl (h_gRs (j := 6) rfl rfl rfl rfl rfl (tkS_tok S)) rfl ?_
    refine w_m0 (pc1 := 213) (st1 := .ref 2 :: _) rfl rfl rfl rfl ?_
    refine w_ae_y (A := 224) (ok_kd) (by decide) (h2) rfl rfl ?_
    refine w_r rfl rfl rfl (fun _ _ => rfl) rfl ?_
    exact HN h2
  · skip
    refine w_p (pc1 := 204) rfl rfl ?_
    refine w_m0 (pc1 := 207) rfl rfl (h_gC rfl rfl rfl rfl) rfl ?_
    refine w_m0 (pc1 := 210) (st1 := .ref (kd B n i) :: _) rfl rfl (h_gRs (j := 6) rfl rfl rfl rfl rfl (tkS_tok S)) rfl ?_
    refine w_m0 (pc1 := 213) (st1 := .ref 2 :: _) rfl rfl rfl rfl ?_
    refine w_ae_n (A := 224) (Bn := 216) (ok_kd) (by decide) (h2) rfl rfl rfl ?_
    refine w_p (pc1 := 217) rfl rfl ?_
    refine w_m0 (pc1 := 220) rfl rfl (h_gC rfl rfl rfl rfl) rfl ?_
    refine w_p (pc1 := 221) (st1 := .int 2 :: _) rfl rfl ?_
    refine w_ji (pc1 := 224) (vs := [.ref 101, .int 2]) (rest := []) (m_31 (d := d + 56) (sl := 0) (c := 2) S) rfl rfl rfl (fun _ _ => rfl) rfl (by exact cl_v my_31 rfl rfl rfl (Nat.le_of_ble_eq_true rfl) rfl (MH_obj rfl rfl) rfl (by decide) rfl rfl) (by rfl) (Nat.le_of_ble_eq_true rfl) (Nat.le_of_ble_eq_true rfl) rfl (fun v h1 d1 hq => ?_) (fun a h1 d1 hq => ?_)
    · exact hq.elim
    · rcases hq with ⟨ha, hh, hn⟩
      · subst ha; subst hh; subst hn
        refine Or.inl ⟨ch_new (by decide) rfl, ?_⟩
        refine HX h2 _ _ _ ⟨rfl, ?_, by omega⟩
        with_reducible rfl
end RED
