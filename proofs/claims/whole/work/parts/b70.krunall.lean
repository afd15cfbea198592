
/-! ONE SIDE AND THE WORLD: every run -/
section KRA
variable {L : Nat} {xs : Nat → Int32} {B : Nat → Nat} {n m d sl b : Nat} {C C' : co_T} {t t' u u' : ab_H} {Ks : List Nat} {W : wo_T} {nl : Option Nat}
set_option maxRecDepth 100000 in
theorem rd_6 {x : Int32} : (rdC B n C m x).1 21 6 = x := by rw [rdC_1, if_neg (by omega), if_neg (by omega), if_neg (by omega), if_pos ⟨rfl, rfl⟩]
set_option maxRecDepth 100000 in
theorem rd_5 {x : Int32} : (rdC B n C m x).1 20 5 = -1 := by rw [rdC_1, if_neg (by omega), if_neg (by omega), if_neg (by omega), if_neg (by omega), if_neg (by omega), if_pos ⟨rfl, rfl⟩]
set_option maxRecDepth 100000 in
theorem lf_n {x : Int32} (hn : isN (kd B n 0) = false) (h : lfK x (if isN (kd B n 0) = true then some (400 - ndS (wU W) (wG W)) else none)) : lfK x none := by
  rw [hn] at h
  exact h
set_option maxRecDepth 100000 in
theorem lf_y {x : Int32} (hn : isN (kd B n 0) = true) (h : lfK x (if isN (kd B n 0) = true then some (400 - ndS (wU W) (wG W)) else none)) : lfK x (nlW W) := by
  rw [hn] at h
  exact h
set_option maxRecDepth 100000 in
theorem no8 : (xNo W).1 < 8 := by show 7 < 8; omega
set_option maxRecDepth 100000 in
theorem ok8 : (xOk W).1 < 8 := by show 0 < 8; omega
set_option maxRecDepth 100000 in
theorem xTrg_8 {G : tr_T} : (xTrg W G).1 < 8 := by unfold xTrg; cases xIn (wX W) <;> (first | exact no8 | exact ok8)
set_option maxRecDepth 100000 in
theorem xDrp_8 {a : Nat × Int32} : (xDrp W a).1 < 8 := by
  unfold xDrp
  cases xIn (wX W) with
  | true => (first | exact no8 | exact ok8)
  | false =>
    show (if a.1 = 37 then (bif frG_ W a.2.toNatClampNeg then xOk (drW W a.2.toNatClampNeg) else xNo W) else xOk (wT W, upG (wG W) a.2.toNatClampNeg none, W.2.2)).1 < 8
    split
    · cases frG_ W a.2.toNatClampNeg <;> (first | exact no8 | exact ok8)
    · (first | exact no8 | exact ok8)
set_option maxRecDepth 100000 in
theorem xChg_8 {a : ac_T} : (xChg W a).1 < 8 := by
  have := chgR_b (S := wS W) (a := a) (rs := wR W) (p := fun i => !xWt (wX W) i)
  show (chgR (wS W) a (wR W) (fun i => !xWt (wX W) i)).1.1 < 8
  omega
set_option maxRecDepth 100000 in
theorem xBeg_8 : (xBeg W).1 < 8 := by unfold xBeg; cases xIn (wX W) <;> (first | exact no8 | exact ok8)
set_option maxRecDepth 100000 in
theorem xCom_8 : (xCom W).1 < 8 := by
  cases hx : xIn (wX W) with
  | false => rw [xCom_out hx]; (first | exact no8 | exact ok8)
  | true =>
    cases hl : lkR (wS W) (wR W) (fun _ => true) (rng 0 24) with
    | none => rw [xCom_n hx hl]; (first | exact no8 | exact ok8)
    | some x => rw [xCom_s hx hl]; show 2 < 8; omega
set_option maxRecDepth 100000 in
theorem xBck_8 {a : Int32} : (xBck W a).1 < 8 := by
  unfold xBck
  cases xIn (wX W) with
  | false => (first | exact no8 | exact ok8)
  | true =>
    show (if a = -1 then xOk (wT W, wG W, x0 (wX W), enD (wX W)) else xOk (wT W, wG W, xMr (wX W) a.toNatClampNeg, bkX (wX W) a.toNatClampNeg)).1 < 8
    split <;> (first | exact no8 | exact ok8)
set_option maxRecDepth 100000 in
theorem xMrk_8 {v : Int64} : (xMrk W v).1 < 8 := by unfold xMrk; cases xIn (wX W) <;> (first | exact no8 | exact ok8)
set_option maxRecDepth 100000 in
theorem xLat_8 {a : Int32} : (xLat W a).1 < 8 := by unfold xLat; cases xIn (wX W) <;> (first | exact no8 | exact ok8)
set_option maxRecDepth 100000 in
theorem xNow_8 {a : Int32} : (xNow W a).1 < 8 := by
  cases hx : xIn (wX W) with
  | false => rw [xNow_out hx]; (first | exact no8 | exact ok8)
  | true =>
    cases hl : lkR (wS W) (wR W) (nmB false (wU W) a) (rng 0 24) with
    | none => rw [xNow_n hx hl]; (first | exact no8 | exact ok8)
    | some x => rw [xNow_s hx hl]; show 2 < 8; omega
set_option maxRecDepth 100000 in
theorem runK (hA : wAll W) (K : KI C t Ks W) (Tp : tpK C B n) (hm : lst B n m) : Wd L xs (d + 65) y_9 (0, [(0, .ref 100)], [], MH C t, sl) (PRk m C t W sl (runX W B n)) nX := by
  have h6 : m ≤ 600 := Nat.le_trans (lst_le hm) Tp.2.1
  have h1 : ∀ w, kd B n 0 = w → w ≠ 1 → w ≠ 2 → 0 + 1 ≤ m := fun w e a b => st1 hm (Nat.zero_le m) e a b
  have hL : ∀ b, b < 6 → (wT W).1.1 b ≠ 0 → (wT W).1.2.1 b ≤ 6 ∧ 0 < (wT W).1.2.1 b := fun b hb hz => ⟨(hA.1.1.1 b hb).1, (hA.1.1.1 b hb).2.1 hz⟩
  unfold runX
  by_cases e37 : kd B n 0 = 37
  · rw [if_pos e37]
    exact kRunT hA K Tp hm e37
  rw [if_neg e37]
  by_cases e39 : kd B n 0 = 39
  · rw [if_pos e39]
    have h0 := h1 39 e39 (by decide) (by decide)
    refine kRun (Q := QTr (trN (wG W))) hA K Tp hm (rTrg_b hm h6 h0) (fun x hx => rTrg_m hm h0 hx) (fun x P X hl KI0 S R H => d12_trg (d := d + 1) R (TGN_K KI0.2.1.2.1) (rTrg_z hm h6 h0) S e39 (by rw [rd_6]; exact lf_y (by rw [e39]; rfl) hl) H vb_3) (fun a => xTrg_8) (fun a i' nl' C' u hr hQ K' hv h10 h24 => ?_)
    rw [e39] at hv
    exact ex_39 (rTrg_s hr) hQ K' hv h10 h24
  rw [if_neg e39]
  have hN : isN (kd B n 0) = false := by
    unfold isN
    rw [decide_eq_false e37, decide_eq_false e39]
    rfl
  by_cases e17 : kd B n 0 = 17
  · rw [if_pos e17]
    have h0 := h1 17 e17 (by decide) (by decide)
    refine kRun (Q := fun a C' t' => QDr a C' t') hA K Tp hm (rDrp_b hm h0) (fun x hx => rDrp_m hm h0 hx) (fun x P X hl KI0 S R H => d12_drp (d := d + 1) KI0.2.1.1.1 (TGN_K KI0.2.1.2.1) S e17 (by rw [rd_6]; exact lf_n hN hl) H vb_3) (fun a => xDrp_8) (fun a i' nl' C' u hr hQ K' hv h10 h24 => ?_)
    rw [e17] at hv
    exact ex_17 hA (rDrp_s hr) hQ K' hv h10 h24
  rw [if_neg e17]
  by_cases ech : kd B n 0 = 18 ∨ kd B n 0 = 41 ∨ kd B n 0 = 15
  · rw [if_pos ech]
    refine kRun (Q := fun a C' t' => ∃ k, C'.2.2 20 8 = some (241 + k) ∧ ACn t' k a) hA K Tp hm (rChg_b hm h6 (Nat.zero_le m)) (fun x hx => rChg_m hm (Nat.zero_le m) hx) (fun x P X hl KI0 S R H => ?_) (fun a => xChg_8) (fun a i' nl' C' u hr hQ K' hv h10 h24 => ?_)
    · have hl' : lfK ((rdC B n (saC C) m x).1 21 6) none := by rw [rd_6]; exact lf_n hN hl
      rcases ech with e | e | e
      · exact d12_act18 (d := d + 1) R (rChg_z hm h6 (Nat.zero_le m)) S e hl' H vb_3
      · exact d12_act41 (d := d + 1) R (rChg_z hm h6 (Nat.zero_le m)) S e hl' H vb_3
      · exact d12_act15 (d := d + 1) R (rChg_z hm h6 (Nat.zero_le m)) S e hl' H vb_3
    · obtain ⟨g1, g2, _⟩ := rChg_w (w0 := 0) hm h6 (Nat.zero_le m) hL (fun p e => by cases e) hr
      exact ex_ch hA g1 g2.1 hQ K' ech hv h24
  rw [if_neg ech]
  by_cases e10 : kd B n 0 = 10
  · rw [if_pos e10]
    have h0 := h1 10 e10 (by decide) (by decide)
    refine kRun (Q := fun _ _ _ => True) hA K Tp hm bp_r (fun x hx => by cases hx; exact h0) (fun x P X hl KI0 S R H => d12_nxt10 (d := d + 1) S e10 H vb_3) (fun a => xBeg_8) (fun a i' nl' C' u hr hQ K' hv h10 h24 => ?_)
    rw [e10] at hv
    exact ex_10 hA K' hv h10 h24
  rw [if_neg e10]
  by_cases e13 : kd B n 0 = 13
  · rw [if_pos e13]
    have h0 := h1 13 e13 (by decide) (by decide)
    refine kRun (Q := fun _ _ _ => True) hA K Tp hm bp_r (fun x hx => by cases hx; exact h0) (fun x P X hl KI0 S R H => d12_nxt13 (d := d + 1) S e13 H vb_3) (fun a => xCom_8) (fun a i' nl' C' u hr hQ K' hv h10 h24 => ?_)
    rw [e13] at hv
    exact ex_13 hA K' hv h10 h24
  rw [if_neg e13]
  by_cases e8 : kd B n 0 = 8
  · rw [if_pos e8]
    have h0 := h1 8 e8 (by decide) (by decide)
    refine kRun (Q := fun a C' _ => C'.1 20 5 = a) hA K Tp hm (rBck_b hm h0) (fun x hx => rBck_m hm h0 hx) (fun x P X hl KI0 S R H => d12_bck (d := d + 1) KI0.2.2.2.1.2.2 rd_5 S e8 (by rw [rd_6]; exact lf_n hN hl) H vb_3) (fun a => xBck_8) (fun a i' nl' C' u hr hQ K' hv h10 h24 => ?_)
    rw [e8] at hv
    exact ex_8 hA (rBck_s hA.1.2.2.2.1.2.2 hr) hQ K' hv h10 h24
  rw [if_neg e8]
  by_cases e22 : kd B n 0 = 22
  · rw [if_pos e22]
    have h0 := h1 22 e22 (by decide) (by decide)
    refine kRun (Q := fun a C' _ => C'.2.1 20 6 = a) hA K Tp hm (rMrk_b h0) (fun x hx => rMrk_m hm h0 hx) (fun x P X hl KI0 S R H => d12_mrk (d := d + 1) KI0.2.2.2.1.2.2 S e22 (by rw [rd_6]; exact lf_n hN hl) H vb_3) (fun a => xMrk_8) (fun a i' nl' C' u hr hQ K' hv h10 h24 => ?_)
    rw [e22] at hv
    exact ex_22 hA (rMrk_s hr) hQ K' hv h10 h24
  rw [if_neg e22]
  by_cases e20 : kd B n 0 = 20
  · rw [if_pos e20]
    have h0 := h1 20 e20 (by decide) (by decide)
    have ed : decide (kd B n 0 = 20) = true := decide_eq_true e20
    refine kRun (Q := fun a C' _ => C'.1 20 7 = a) hA K Tp hm (rWhi_b hm h0) (fun x hx => rWhi_m hm h0 hx) (fun x P X hl KI0 S R H => ?_) (fun a => xLat_8) (fun a i' nl' C' u hr hQ K' hv h10 h24 => ?_)
    · rw [← ed] at H
      exact d12_whi20 (d := d + 1) KI0.2.1.1.2.2 vb_3 S e20 (by rw [rd_6]; exact lf_n hN hl) H vb_3
    · rw [e20] at hv
      exact ex_20 hQ K' hv h10 h24
  rw [if_neg e20]
  by_cases e26 : kd B n 0 = 26
  · rw [if_pos e26]
    have h0 := h1 26 e26 (by decide) (by decide)
    have ed : decide (kd B n 0 = 20) = false := decide_eq_false e20
    refine kRun (Q := fun a C' _ => C'.1 20 7 = a) hA K Tp hm (rWhi_b hm h0) (fun x hx => rWhi_m hm h0 hx) (fun x P X hl KI0 S R H => ?_) (fun a => xNow_8) (fun a i' nl' C' u hr hQ K' hv h10 h24 => ?_)
    · rw [← ed] at H
      exact d12_whi26 (d := d + 1) KI0.2.1.1.2.2 vb_3 S e26 (by rw [rd_6]; exact lf_n hN hl) H vb_3
    · rw [e26] at hv
      exact ex_26 hA hQ K' hv h10 h24
  rw [if_neg e26]
  have hk := kd_ok (B := B) (n := n) 0
  have hv := vrb_0 ⟨kd B n 0, by omega⟩ hk.1 e8 e10 e13 (fun e => ech (Or.inr (Or.inr e))) e17 (fun e => ech (Or.inl e)) e20 e22 e26 e37 e39 (fun e => ech (Or.inr (Or.inl e)))
  exact kRun (r := (.inl (2, 0) : pz_T (Unit × Nat × Option Nat))) (Q := fun _ _ _ => True) (f := fun _ => xNo W) hA K Tp hm (bp_l (Nat.zero_le m)) (fun x hx => by cases hx) (fun x P X hl KI0 S R H => d12_def (d := d + 1) S hv vb_3 (fun a h q z => H.2 2 0 _ _ 0 a h q (Or.inl rfl) flt_rf.1 flt_rf.2 tlE_r (by omega) (by omega) z)) (fun a => by show 7 < 8; decide) (fun a i' nl' C' u hr => by cases hr)
end KRA
