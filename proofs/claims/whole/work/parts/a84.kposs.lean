
/-! ONE SIDE: is a statement possible now -/
section POS
variable {L : Nat} {xs : Nat → Int32} {B : Nat → Nat} {n m : Nat} {C C' C0 C1 : co_T} {t t0 t1 : ab_H} {d sl sl0 sl1 i i0 i1 j b e ti k k0 kc ks w c : Nat} {sc : sc_T} {row : Option Nat} {tg : Option (Nat × Nat)} {nl : Option Nat} {kd0 tb0 : Int32} {P : Option Value → ab_H → Nat → Prop} {X : Nat → ab_H → Nat → Prop} {cs : List Nat} {ss : List (Option (List op_T))} {E : fe_T} {tr : Nat → Option tr_T} {u : Bool}
set_option maxRecDepth 100000 in
theorem m_101_37 (hv : C.2.2 20 3 = some 37) (hu : C.1 6 7 = ck u) : Wd L xs (d + 1) y_101 (0, [(0, .ref 100)], [], MH C t, sl) (Rt (some (.int (ck (!u)))) (MH C t) sl) nX := by
  cases u with
  | true =>
    refine w_m0 (pc1 := 3) (st1 := .ref 61 :: _) rfl rfl rfl rfl ?_
    refine w_p (pc1 := 4) rfl rfl ?_
    refine w_m0 (pc1 := 7) rfl rfl (h_gC rfl rfl rfl rfl) rfl ?_
    refine w_m0 (pc1 := 10) (st1 := .ref 37 :: _) rfl rfl (h_gRs (j := 3) rfl rfl rfl rfl rfl (hv)) rfl ?_
    refine w_c (pc1 := 13) rfl rfl rfl (fun fr lo h1 h2 => n_or rfl (by decide) (by decide) h1 h2) rfl ?_
    refine w_m0 (pc1 := 14) rfl rfl (h_sw (by decide)) rfl ?_
    refine w_p (pc1 := 64) rfl rfl ?_
    refine w_p (pc1 := 65) rfl rfl ?_
    refine w_m0 (pc1 := 68) rfl rfl (h_gC rfl rfl rfl rfl) rfl ?_
    refine w_m0 (pc1 := 71) (st1 := .int 1 :: _) rfl rfl (h_gIe (j := 7) rfl rfl rfl rfl rfl (hu)) rfl ?_
    refine w_t (a := 78) (b := 74) rfl rfl rfl ?_
    refine w_p (pc1 := 79) (st1 := .int 0 :: _) rfl rfl ?_
    refine w_r rfl rfl rfl (fun _ _ => rfl) rfl ?_
    exact ⟨rfl, rfl, rfl⟩
  | false =>
    refine w_m0 (pc1 := 3) (st1 := .ref 61 :: _) rfl rfl rfl rfl ?_
    refine w_p (pc1 := 4) rfl rfl ?_
    refine w_m0 (pc1 := 7) rfl rfl (h_gC rfl rfl rfl rfl) rfl ?_
    refine w_m0 (pc1 := 10) (st1 := .ref 37 :: _) rfl rfl (h_gRs (j := 3) rfl rfl rfl rfl rfl (hv)) rfl ?_
    refine w_c (pc1 := 13) rfl rfl rfl (fun fr lo h1 h2 => n_or rfl (by decide) (by decide) h1 h2) rfl ?_
    refine w_m0 (pc1 := 14) rfl rfl (h_sw (by decide)) rfl ?_
    refine w_p (pc1 := 64) rfl rfl ?_
    refine w_p (pc1 := 65) rfl rfl ?_
    refine w_m0 (pc1 := 68) rfl rfl (h_gC rfl rfl rfl rfl) rfl ?_
    refine w_m0 (pc1 := 71) (st1 := .int 0 :: _) rfl rfl (h_gIe (j := 7) rfl rfl rfl rfl rfl (hu)) rfl ?_
    refine w_f (a := 78) (b := 74) rfl rfl rfl ?_
    refine w_p (pc1 := 75) (st1 := .int 1 :: _) rfl rfl ?_
    refine w_p (pc1 := 79) rfl rfl ?_
    refine w_r rfl rfl rfl (fun _ _ => rfl) rfl ?_
    exact ⟨rfl, rfl, rfl⟩
set_option maxRecDepth 100000 in
theorem m_101_39 (hv : C.2.2 20 3 = some 39) (hu : C.1 6 7 = ck u) : Wd L xs (d + 1) y_101 (0, [(0, .ref 100)], [], MH C t, sl) (Rt (some (.int (ck (!u)))) (MH C t) sl) nX := by
  cases u with
  | true =>
    refine w_m0 (pc1 := 3) (st1 := .ref 61 :: _) rfl rfl rfl rfl ?_
    refine w_p (pc1 := 4) rfl rfl ?_
    refine w_m0 (pc1 := 7) rfl rfl (h_gC rfl rfl rfl rfl) rfl ?_
    refine w_m0 (pc1 := 10) (st1 := .ref 39 :: _) rfl rfl (h_gRs (j := 3) rfl rfl rfl rfl rfl (hv)) rfl ?_
    refine w_c (pc1 := 13) rfl rfl rfl (fun fr lo h1 h2 => n_or rfl (by decide) (by decide) h1 h2) rfl ?_
    refine w_m0 (pc1 := 14) rfl rfl (h_sw (by decide)) rfl ?_
    refine w_p (pc1 := 64) rfl rfl ?_
    refine w_p (pc1 := 65) rfl rfl ?_
    refine w_m0 (pc1 := 68) rfl rfl (h_gC rfl rfl rfl rfl) rfl ?_
    refine w_m0 (pc1 := 71) (st1 := .int 1 :: _) rfl rfl (h_gIe (j := 7) rfl rfl rfl rfl rfl (hu)) rfl ?_
    refine w_t (a := 78) (b := 74) rfl rfl rfl ?_
    refine w_p (pc1 := 79) (st1 := .int 0 :: _) rfl rfl ?_
    refine w_r rfl rfl rfl (fun _ _ => rfl) rfl ?_
    exact ⟨rfl, rfl, rfl⟩
  | false =>
    refine w_m0 (pc1 := 3) (st1 := .ref 61 :: _) rfl rfl rfl rfl ?_
    refine w_p (pc1 := 4) rfl rfl ?_
    refine w_m0 (pc1 := 7) rfl rfl (h_gC rfl rfl rfl rfl) rfl ?_
    refine w_m0 (pc1 := 10) (st1 := .ref 39 :: _) rfl rfl (h_gRs (j := 3) rfl rfl rfl rfl rfl (hv)) rfl ?_
    refine w_c (pc1 := 13) rfl rfl rfl (fun fr lo h1 h2 => n_or rfl (by decide) (by decide) h1 h2) rfl ?_
    refine w_m0 (pc1 := 14) rfl rfl (h_sw (by decide)) rfl ?_
    refine w_p (pc1 := 64) rfl rfl ?_
    refine w_p (pc1 := 65) rfl rfl ?_
    refine w_m0 (pc1 := 68) rfl rfl (h_gC rfl rfl rfl rfl) rfl ?_
    refine w_m0 (pc1 := 71) (st1 := .int 0 :: _) rfl rfl (h_gIe (j := 7) rfl rfl rfl rfl rfl (hu)) rfl ?_
    refine w_f (a := 78) (b := 74) rfl rfl rfl ?_
    refine w_p (pc1 := 75) (st1 := .int 1 :: _) rfl rfl ?_
    refine w_p (pc1 := 79) rfl rfl ?_
    refine w_r rfl rfl rfl (fun _ _ => rfl) rfl ?_
    exact ⟨rfl, rfl, rfl⟩
set_option maxRecDepth 100000 in
theorem m_101_10 (hv : C.2.2 20 3 = some 10) (hu : C.1 6 7 = ck u) : Wd L xs (d + 1) y_101 (0, [(0, .ref 100)], [], MH C t, sl) (Rt (some (.int (ck (!u)))) (MH C t) sl) nX := by
  cases u with
  | true =>
    refine w_m0 (pc1 := 3) (st1 := .ref 61 :: _) rfl rfl rfl rfl ?_
    refine w_p (pc1 := 4) rfl rfl ?_
    refine w_m0 (pc1 := 7) rfl rfl (h_gC rfl rfl rfl rfl) rfl ?_
    refine w_m0 (pc1 := 10) (st1 := .ref 10 :: _) rfl rfl (h_gRs (j := 3) rfl rfl rfl rfl rfl (hv)) rfl ?_
    refine w_c (pc1 := 13) rfl rfl rfl (fun fr lo h1 h2 => n_or rfl (by decide) (by decide) h1 h2) rfl ?_
    refine w_m0 (pc1 := 14) rfl rfl (h_sw (by decide)) rfl ?_
    refine w_p (pc1 := 64) rfl rfl ?_
    refine w_p (pc1 := 65) rfl rfl ?_
    refine w_m0 (pc1 := 68) rfl rfl (h_gC rfl rfl rfl rfl) rfl ?_
    refine w_m0 (pc1 := 71) (st1 := .int 1 :: _) rfl rfl (h_gIe (j := 7) rfl rfl rfl rfl rfl (hu)) rfl ?_
    refine w_t (a := 78) (b := 74) rfl rfl rfl ?_
    refine w_p (pc1 := 79) (st1 := .int 0 :: _) rfl rfl ?_
    refine w_r rfl rfl rfl (fun _ _ => rfl) rfl ?_
    exact ⟨rfl, rfl, rfl⟩
  | false =>
    refine w_m0 (pc1 := 3) (st1 := .ref 61 :: _) rfl rfl rfl rfl ?_
    refine w_p (pc1 := 4) rfl rfl ?_
    refine w_m0 (pc1 := 7) rfl rfl (h_gC rfl rfl rfl rfl) rfl ?_
    refine w_m0 (pc1 := 10) (st1 := .ref 10 :: _) rfl rfl (h_gRs (j := 3) rfl rfl rfl rfl rfl (hv)) rfl ?_
    refine w_c (pc1 := 13) rfl rfl rfl (fun fr lo h1 h2 => n_or rfl (by decide) (by decide) h1 h2) rfl ?_
    refine w_m0 (pc1 := 14) rfl rfl (h_sw (by decide)) rfl ?_
    refine w_p (pc1 := 64) rfl rfl ?_
    refine w_p (pc1 := 65) rfl rfl ?_
    refine w_m0 (pc1 := 68) rfl rfl (h_gC rfl rfl rfl rfl) rfl ?_
    refine w_m0 (pc1 := 71) (st1 := .int 0 :: _) rfl rfl (h_gIe (j := 7) rfl rfl rfl rfl rfl (hu)) rfl ?_
    refine w_f (a := 78) (b := 74) rfl rfl rfl ?_
    refine w_p (pc1 := 75) (st1 := .int 1 :: _) rfl rfl ?_
    refine w_p (pc1 := 79) rfl rfl ?_
    refine w_r rfl rfl rfl (fun _ _ => rfl) rfl ?_
    exact ⟨rfl, rfl, rfl⟩
set_option maxRecDepth 100000 in
theorem m_101_13 (hv : C.2.2 20 3 = some 13) (hu : C.1 6 7 = ck u) : Wd L xs (d + 1) y_101 (0, [(0, .ref 100)], [], MH C t, sl) (Rt (some (.int (ck u))) (MH C t) sl) nX := by
  cases u with
  | true =>
    refine w_m0 (pc1 := 3) (st1 := .ref 61 :: _) rfl rfl rfl rfl ?_
    refine w_p (pc1 := 4) rfl rfl ?_
    refine w_m0 (pc1 := 7) rfl rfl (h_gC rfl rfl rfl rfl) rfl ?_
    refine w_m0 (pc1 := 10) (st1 := .ref 13 :: _) rfl rfl (h_gRs (j := 3) rfl rfl rfl rfl rfl (hv)) rfl ?_
    refine w_c (pc1 := 13) rfl rfl rfl (fun fr lo h1 h2 => n_or rfl (by decide) (by decide) h1 h2) rfl ?_
    refine w_m0 (pc1 := 14) rfl rfl (h_sw (by decide)) rfl ?_
    refine w_p (pc1 := 126) rfl rfl ?_
    refine w_p (pc1 := 127) rfl rfl ?_
    refine w_m0 (pc1 := 130) rfl rfl (h_gC rfl rfl rfl rfl) rfl ?_
    refine w_m0 (pc1 := 133) (st1 := .int 1 :: _) rfl rfl (h_gIe (j := 7) rfl rfl rfl rfl rfl (hu)) rfl ?_
    refine w_r rfl rfl rfl (fun _ _ => rfl) rfl ?_
    exact ⟨rfl, rfl, rfl⟩
  | false =>
    refine w_m0 (pc1 := 3) (st1 := .ref 61 :: _) rfl rfl rfl rfl ?_
    refine w_p (pc1 := 4) rfl rfl ?_
    refine w_m0 (pc1 := 7) rfl rfl (h_gC rfl rfl rfl rfl) rfl ?_
    refine w_m0 (pc1 := 10) (st1 := .ref 13 :: _) rfl rfl (h_gRs (j := 3) rfl rfl rfl rfl rfl (hv)) rfl ?_
    refine w_c (pc1 := 13) rfl rfl rfl (fun fr lo h1 h2 => n_or rfl (by decide) (by decide) h1 h2) rfl ?_
    refine w_m0 (pc1 := 14) rfl rfl (h_sw (by decide)) rfl ?_
    refine w_p (pc1 := 126) rfl rfl ?_
    refine w_p (pc1 := 127) rfl rfl ?_
    refine w_m0 (pc1 := 130) rfl rfl (h_gC rfl rfl rfl rfl) rfl ?_
    refine w_m0 (pc1 := 133) (st1 := .int 0 :: _) rfl rfl (h_gIe (j := 7) rfl rfl rfl rfl rfl (hu)) rfl ?_
    refine w_r rfl rfl rfl (fun _ _ => rfl) rfl ?_
    exact ⟨rfl, rfl, rfl⟩
set_option maxRecDepth 100000 in
theorem m_101_8 (hv : C.2.2 20 3 = some 8) (hu : C.1 6 7 = ck u) : Wd L xs (d + 1) y_101 (0, [(0, .ref 100)], [], MH C t, sl) (Rt (some (.int (ck u))) (MH C t) sl) nX := by
  cases u with
  | true =>
    refine w_m0 (pc1 := 3) (st1 := .ref 61 :: _) rfl rfl rfl rfl ?_
    refine w_p (pc1 := 4) rfl rfl ?_
    refine w_m0 (pc1 := 7) rfl rfl (h_gC rfl rfl rfl rfl) rfl ?_
    refine w_m0 (pc1 := 10) (st1 := .ref 8 :: _) rfl rfl (h_gRs (j := 3) rfl rfl rfl rfl rfl (hv)) rfl ?_
    refine w_c (pc1 := 13) rfl rfl rfl (fun fr lo h1 h2 => n_or rfl (by decide) (by decide) h1 h2) rfl ?_
    refine w_m0 (pc1 := 14) rfl rfl (h_sw (by decide)) rfl ?_
    refine w_p (pc1 := 126) rfl rfl ?_
    refine w_p (pc1 := 127) rfl rfl ?_
    refine w_m0 (pc1 := 130) rfl rfl (h_gC rfl rfl rfl rfl) rfl ?_
    refine w_m0 (pc1 := 133) (st1 := .int 1 :: _) rfl rfl (h_gIe (j := 7) rfl rfl rfl rfl rfl (hu)) rfl ?_
    refine w_r rfl rfl rfl (fun _ _ => rfl) rfl ?_
    exact ⟨rfl, rfl, rfl⟩
  | false =>
    refine w_m0 (pc1 := 3) (st1 := .ref 61 :: _) rfl rfl rfl rfl ?_
    refine w_p (pc1 := 4) rfl rfl ?_
    refine w_m0 (pc1 := 7) rfl rfl (h_gC rfl rfl rfl rfl) rfl ?_
    refine w_m0 (pc1 := 10) (st1 := .ref 8 :: _) rfl rfl (h_gRs (j := 3) rfl rfl rfl rfl rfl (hv)) rfl ?_
    refine w_c (pc1 := 13) rfl rfl rfl (fun fr lo h1 h2 => n_or rfl (by decide) (by decide) h1 h2) rfl ?_
    refine w_m0 (pc1 := 14) rfl rfl (h_sw (by decide)) rfl ?_
    refine w_p (pc1 := 126) rfl rfl ?_
    refine w_p (pc1 := 127) rfl rfl ?_
    refine w_m0 (pc1 := 130) rfl rfl (h_gC rfl rfl rfl rfl) rfl ?_
    refine w_m0 (pc1 := 133) (st1 := .int 0 :: _) rfl rfl (h_gIe (j := 7) rfl rfl rfl rfl rfl (hu)) rfl ?_
    refine w_r rfl rfl rfl (fun _ _ => rfl) rfl ?_
    exact ⟨rfl, rfl, rfl⟩
set_option maxRecDepth 100000 in
theorem m_101_22 (hv : C.2.2 20 3 = some 22) (hu : C.1 6 7 = ck u) : Wd L xs (d + 1) y_101 (0, [(0, .ref 100)], [], MH C t, sl) (Rt (some (.int (ck u))) (MH C t) sl) nX := by
  cases u with
  | true =>
    refine w_m0 (pc1 := 3) (st1 := .ref 61 :: _) rfl rfl rfl rfl ?_
    refine w_p (pc1 := 4) rfl rfl ?_
    refine w_m0 (pc1 := 7) rfl rfl (h_gC rfl rfl rfl rfl) rfl ?_
    refine w_m0 (pc1 := 10) (st1 := .ref 22 :: _) rfl rfl (h_gRs (j := 3) rfl rfl rfl rfl rfl (hv)) rfl ?_
    refine w_c (pc1 := 13) rfl rfl rfl (fun fr lo h1 h2 => n_or rfl (by decide) (by decide) h1 h2) rfl ?_
    refine w_m0 (pc1 := 14) rfl rfl (h_sw (by decide)) rfl ?_
    refine w_p (pc1 := 126) rfl rfl ?_
    refine w_p (pc1 := 127) rfl rfl ?_
    refine w_m0 (pc1 := 130) rfl rfl (h_gC rfl rfl rfl rfl) rfl ?_
    refine w_m0 (pc1 := 133) (st1 := .int 1 :: _) rfl rfl (h_gIe (j := 7) rfl rfl rfl rfl rfl (hu)) rfl ?_
    refine w_r rfl rfl rfl (fun _ _ => rfl) rfl ?_
    exact ⟨rfl, rfl, rfl⟩
  | false =>
    refine w_m0 (pc1 := 3) (st1 := .ref 61 :: _) rfl rfl rfl rfl ?_
    refine w_p (pc1 := 4) rfl rfl ?_
    refine w_m0 (pc1 := 7) rfl rfl (h_gC rfl rfl rfl rfl) rfl ?_
    refine w_m0 (pc1 := 10) (st1 := .ref 22 :: _) rfl rfl (h_gRs (j := 3) rfl rfl rfl rfl rfl (hv)) rfl ?_
    refine w_c (pc1 := 13) rfl rfl rfl (fun fr lo h1 h2 => n_or rfl (by decide) (by decide) h1 h2) rfl ?_
    refine w_m0 (pc1 := 14) rfl rfl (h_sw (by decide)) rfl ?_
    refine w_p (pc1 := 126) rfl rfl ?_
    refine w_p (pc1 := 127) rfl rfl ?_
    refine w_m0 (pc1 := 130) rfl rfl (h_gC rfl rfl rfl rfl) rfl ?_
    refine w_m0 (pc1 := 133) (st1 := .int 0 :: _) rfl rfl (h_gIe (j := 7) rfl rfl rfl rfl rfl (hu)) rfl ?_
    refine w_r rfl rfl rfl (fun _ _ => rfl) rfl ?_
    exact ⟨rfl, rfl, rfl⟩
set_option maxRecDepth 100000 in
theorem m_101_20 (hv : C.2.2 20 3 = some 20) (hu : C.1 6 7 = ck u) : Wd L xs (d + 1) y_101 (0, [(0, .ref 100)], [], MH C t, sl) (Rt (some (.int (ck u))) (MH C t) sl) nX := by
  cases u with
  | true =>
    refine w_m0 (pc1 := 3) (st1 := .ref 61 :: _) rfl rfl rfl rfl ?_
    refine w_p (pc1 := 4) rfl rfl ?_
    refine w_m0 (pc1 := 7) rfl rfl (h_gC rfl rfl rfl rfl) rfl ?_
    refine w_m0 (pc1 := 10) (st1 := .ref 20 :: _) rfl rfl (h_gRs (j := 3) rfl rfl rfl rfl rfl (hv)) rfl ?_
    refine w_c (pc1 := 13) rfl rfl rfl (fun fr lo h1 h2 => n_or rfl (by decide) (by decide) h1 h2) rfl ?_
    refine w_m0 (pc1 := 14) rfl rfl (h_sw (by decide)) rfl ?_
    refine w_p (pc1 := 126) rfl rfl ?_
    refine w_p (pc1 := 127) rfl rfl ?_
    refine w_m0 (pc1 := 130) rfl rfl (h_gC rfl rfl rfl rfl) rfl ?_
    refine w_m0 (pc1 := 133) (st1 := .int 1 :: _) rfl rfl (h_gIe (j := 7) rfl rfl rfl rfl rfl (hu)) rfl ?_
    refine w_r rfl rfl rfl (fun _ _ => rfl) rfl ?_
    exact ⟨rfl, rfl, rfl⟩
  | false =>
    refine w_m0 (pc1 := 3) (st1 := .ref 61 :: _) rfl rfl rfl rfl ?_
    refine w_p (pc1 := 4) rfl rfl ?_
    refine w_m0 (pc1 := 7) rfl rfl (h_gC rfl rfl rfl rfl) rfl ?_
    refine w_m0 (pc1 := 10) (st1 := .ref 20 :: _) rfl rfl (h_gRs (j := 3) rfl rfl rfl rfl rfl (hv)) rfl ?_
    refine w_c (pc1 := 13) rfl rfl rfl (fun fr lo h1 h2 => n_or rfl (by decide) (by decide) h1 h2) rfl ?_
    refine w_m0 (pc1 := 14) rfl rfl (h_sw (by decide)) rfl ?_
    refine w_p (pc1 := 126) rfl rfl ?_
    refine w_p (pc1 := 127) rfl rfl ?_
    refine w_m0 (pc1 := 130) rfl rfl (h_gC rfl rfl rfl rfl) rfl ?_
    refine w_m0 (pc1 := 133) (st1 := .int 0 :: _) rfl rfl (h_gIe (j := 7) rfl rfl rfl rfl rfl (hu)) rfl ?_
    refine w_r rfl rfl rfl (fun _ _ => rfl) rfl ?_
    exact ⟨rfl, rfl, rfl⟩
set_option maxRecDepth 100000 in
theorem m_101_26 (hv : C.2.2 20 3 = some 26) (hu : C.1 6 7 = ck u) : Wd L xs (d + 1) y_101 (0, [(0, .ref 100)], [], MH C t, sl) (Rt (some (.int (ck u))) (MH C t) sl) nX := by
  cases u with
  | true =>
    refine w_m0 (pc1 := 3) (st1 := .ref 61 :: _) rfl rfl rfl rfl ?_
    refine w_p (pc1 := 4) rfl rfl ?_
    refine w_m0 (pc1 := 7) rfl rfl (h_gC rfl rfl rfl rfl) rfl ?_
    refine w_m0 (pc1 := 10) (st1 := .ref 26 :: _) rfl rfl (h_gRs (j := 3) rfl rfl rfl rfl rfl (hv)) rfl ?_
    refine w_c (pc1 := 13) rfl rfl rfl (fun fr lo h1 h2 => n_or rfl (by decide) (by decide) h1 h2) rfl ?_
    refine w_m0 (pc1 := 14) rfl rfl (h_sw (by decide)) rfl ?_
    refine w_p (pc1 := 126) rfl rfl ?_
    refine w_p (pc1 := 127) rfl rfl ?_
    refine w_m0 (pc1 := 130) rfl rfl (h_gC rfl rfl rfl rfl) rfl ?_
    refine w_m0 (pc1 := 133) (st1 := .int 1 :: _) rfl rfl (h_gIe (j := 7) rfl rfl rfl rfl rfl (hu)) rfl ?_
    refine w_r rfl rfl rfl (fun _ _ => rfl) rfl ?_
    exact ⟨rfl, rfl, rfl⟩
  | false =>
    refine w_m0 (pc1 := 3) (st1 := .ref 61 :: _) rfl rfl rfl rfl ?_
    refine w_p (pc1 := 4) rfl rfl ?_
    refine w_m0 (pc1 := 7) rfl rfl (h_gC rfl rfl rfl rfl) rfl ?_
    refine w_m0 (pc1 := 10) (st1 := .ref 26 :: _) rfl rfl (h_gRs (j := 3) rfl rfl rfl rfl rfl (hv)) rfl ?_
    refine w_c (pc1 := 13) rfl rfl rfl (fun fr lo h1 h2 => n_or rfl (by decide) (by decide) h1 h2) rfl ?_
    refine w_m0 (pc1 := 14) rfl rfl (h_sw (by decide)) rfl ?_
    refine w_p (pc1 := 126) rfl rfl ?_
    refine w_p (pc1 := 127) rfl rfl ?_
    refine w_m0 (pc1 := 130) rfl rfl (h_gC rfl rfl rfl rfl) rfl ?_
    refine w_m0 (pc1 := 133) (st1 := .int 0 :: _) rfl rfl (h_gIe (j := 7) rfl rfl rfl rfl rfl (hu)) rfl ?_
    refine w_r rfl rfl rfl (fun _ _ => rfl) rfl ?_
    exact ⟨rfl, rfl, rfl⟩
set_option maxRecDepth 100000 in
theorem m_101_18 (hv : C.2.2 20 3 = some 18) : Wd L xs (d + 1) y_101 (0, [(0, .ref 100)], [], MH C t, sl) (Rt (some (.int 1)) (MH C t) sl) nX := by
  refine w_m0 (pc1 := 3) (st1 := .ref 61 :: _) rfl rfl rfl rfl ?_
  refine w_p (pc1 := 4) rfl rfl ?_
  refine w_m0 (pc1 := 7) rfl rfl (h_gC rfl rfl rfl rfl) rfl ?_
  refine w_m0 (pc1 := 10) (st1 := .ref 18 :: _) rfl rfl (h_gRs (j := 3) rfl rfl rfl rfl rfl (hv)) rfl ?_
  refine w_c (pc1 := 13) rfl rfl rfl (fun fr lo h1 h2 => n_or rfl (by decide) (by decide) h1 h2) rfl ?_
  refine w_m0 (pc1 := 14) rfl rfl (h_sw (by decide)) rfl ?_
  refine w_p (pc1 := 134) rfl rfl ?_
  refine w_p (pc1 := 135) (st1 := .int 1 :: _) rfl rfl ?_
  refine w_r rfl rfl rfl (fun _ _ => rfl) rfl ?_
  exact ⟨rfl, rfl, rfl⟩
set_option maxRecDepth 100000 in
theorem m_101_41 (hv : C.2.2 20 3 = some 41) : Wd L xs (d + 1) y_101 (0, [(0, .ref 100)], [], MH C t, sl) (Rt (some (.int 1)) (MH C t) sl) nX := by
  refine w_m0 (pc1 := 3) (st1 := .ref 61 :: _) rfl rfl rfl rfl ?_
  refine w_p (pc1 := 4) rfl rfl ?_
  refine w_m0 (pc1 := 7) rfl rfl (h_gC rfl rfl rfl rfl) rfl ?_
  refine w_m0 (pc1 := 10) (st1 := .ref 41 :: _) rfl rfl (h_gRs (j := 3) rfl rfl rfl rfl rfl (hv)) rfl ?_
  refine w_c (pc1 := 13) rfl rfl rfl (fun fr lo h1 h2 => n_or rfl (by decide) (by decide) h1 h2) rfl ?_
  refine w_m0 (pc1 := 14) rfl rfl (h_sw (by decide)) rfl ?_
  refine w_p (pc1 := 134) rfl rfl ?_
  refine w_p (pc1 := 135) (st1 := .int 1 :: _) rfl rfl ?_
  refine w_r rfl rfl rfl (fun _ _ => rfl) rfl ?_
  exact ⟨rfl, rfl, rfl⟩
set_option maxRecDepth 100000 in
theorem m_101_15 (hv : C.2.2 20 3 = some 15) : Wd L xs (d + 1) y_101 (0, [(0, .ref 100)], [], MH C t, sl) (Rt (some (.int 1)) (MH C t) sl) nX := by
  refine w_m0 (pc1 := 3) (st1 := .ref 61 :: _) rfl rfl rfl rfl ?_
  refine w_p (pc1 := 4) rfl rfl ?_
  refine w_m0 (pc1 := 7) rfl rfl (h_gC rfl rfl rfl rfl) rfl ?_
  refine w_m0 (pc1 := 10) (st1 := .ref 15 :: _) rfl rfl (h_gRs (j := 3) rfl rfl rfl rfl rfl (hv)) rfl ?_
  refine w_c (pc1 := 13) rfl rfl rfl (fun fr lo h1 h2 => n_or rfl (by decide) (by decide) h1 h2) rfl ?_
  refine w_m0 (pc1 := 14) rfl rfl (h_sw (by decide)) rfl ?_
  refine w_p (pc1 := 134) rfl rfl ?_
  refine w_p (pc1 := 135) (st1 := .int 1 :: _) rfl rfl ?_
  refine w_r rfl rfl rfl (fun _ _ => rfl) rfl ?_
  exact ⟨rfl, rfl, rfl⟩
end POS
