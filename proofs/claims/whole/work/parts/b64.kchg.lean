
/-! ONE SIDE AND THE WORLD: DROP, changes -/
section KDC
variable {L : Nat} {xs : Nat → Int32} {B : Nat → Nat} {n m d sl : Nat} {C C' C1 : co_T} {t t' u t1 : ab_H} {Ks : List Nat} {W : wo_T} {M : Nat → Bool} {k : Nat}
set_option maxRecDepth 100000 in
theorem xDrp_in {a : Nat × Int32} (h : xIn (wX W) = true) : xDrp W a = xNo W := by unfold xDrp; rw [h]; rfl
set_option maxRecDepth 100000 in
theorem xDrp_t {b : Nat} (h : xIn (wX W) = false) (hb : b < 6) : xDrp W (37, nI b) = (bif frG_ W b then xOk (drW W b) else xNo W) := by
  unfold xDrp
  rw [h]
  show (bif frG_ W (nI b).toNatClampNeg then xOk (drW W (nI b).toNatClampNeg) else xNo W) = _
  rw [nK_nat (by omega)]
set_option maxRecDepth 100000 in
theorem xDrp_g {s : Nat} (h : xIn (wX W) = false) (hb : s < 8) : xDrp W (39, nI s) = xOk (wT W, upG (wG W) s none, W.2.2) := by
  unfold xDrp
  rw [h]
  show xOk (wT W, upG (wG W) (nI s).toNatClampNeg none, W.2.2) = _
  rw [nK_nat (by omega)]
set_option maxRecDepth 100000 in
theorem ex_17 {a : Nat × Int32} (hA : wAll W) (ha : (a.1 = 37 ∧ ∃ b, a.2 = nI b ∧ b < 6 ∧ (wT W).1.1 b ≠ 0) ∨ (a.1 = 39 ∧ ∃ s, a.2 = nI s ∧ s < 8)) (hQ : C.2.2 20 4 = some a.1 ∧ C.1 20 5 = a.2) (K : KI C u Ks W) (hv : C.2.2 20 3 = some 17) (h10 : C.1 20 10 = -1) (h24 : C.1 24 7 = 0 ∧ C.1 24 8 = 0) : Wd L xs (d + 64) y_100 (0, [(0, .ref 100)], [], MH C u, 0) (PXk C u (xDrp W a)) nX := by
  have hM : ∀ j, mBk Ks j = true → j < u.length := bkO_h K.1
  obtain ⟨a1, a2⟩ := a
  cases hx : xIn (wX W) with
  | true =>
    rw [xDrp_in hx]
    exact kNo K h10 h24 (m_101_17u (d := d + 62) (sl := 0) hv (by rw [← hx]; exact K.2.2.2.1.1))
  | false =>
    have hu : C.1 6 7 = ck false := by rw [← hx]; exact K.2.2.2.1.1
    rcases ha with ⟨e1, b, e2, e3, e4⟩ | ⟨e1, s, e2, e3⟩
    · have e1 : a1 = 37 := e1
      have e2 : a2 = nI b := e2
      subst e1 e2
      rw [xDrp_t hx e3]
      have h5 : C.1 20 5 = nI b := hQ.2
      have hn : C.2.2 20 4 = some 37 := hQ.1
      have wf := W_mR (M := mBk Ks) (t := u) (m_102 (L := L) (xs := xs) (d := d + 62) (sl := 0) (t := msk (mBk Ks) u) (b := b) K.2.1.1.2.2 (fun i v hv => ⟨(hA.1.1.2 i v hv).1.1.2.1, fun q hq => ((hA.1.1.2 i v hv).2.2 q hq).1⟩) (TGN_K K.2.1.2.1) (fun i v hv => ⟨(hA.1.2.1 i v hv).1.1, fun q hq => ((hA.1.2.1 i v hv).2.2.1 q hq).1⟩) e3) hM
      have wp := m_101_17t (L := L) (xs := xs) (d := d + 62) (sl := 0) (z := frG_ W b) hv hu hn h5 wf
      cases hf : frG_ W b with
      | false =>
        rw [hf] at wp
        exact kNo K h10 h24 wp
      | true =>
        rw [hf] at wp
        have hT : isT C b = true := by
          show (!decide (C.2.1 7 b = 0)) = true
          rw [K.2.1.1.1.1 b e3, decide_eq_false e4]
          rfl
        have w98 := m_98 (L := L) (xs := xs) (d := d + 62) (sl := 0) (t := msk (mBk Ks) u) (C := C) e3 hT (SLt_K hA.1 K.2.1) (SLg_K hA.1 K.2.1)
        have w98' := W_mE (M := mBk Ks) (t := u) (Q := fun v C2 q => none = v ∧ (∃ C1, drS (dpC C b) C1 11 0 24 b (tbU (wU W)) ∧ drS C1 C2 12 0 8 b (tbG (wG W))) ∧ 0 = q) (Wd_q w98 (fun v h q hq => by
          obtain ⟨e1, ⟨C1, C2, e2, e3, e4⟩, e5⟩ := hq
          exact ⟨C2, ⟨e1, ⟨C1, e2, e3⟩, e5⟩, e4⟩) (fun _ _ _ e => e)) hM
        refine p_100 (d := d + 63) wp (c_100_17t (d := d + 63) hv hn h5 w98' (fun v h q hq => ?_))
        obtain ⟨C2, ⟨rfl, ⟨C1, g1, g2⟩, rfl⟩, rfl⟩ := hq
        refine ⟨rfl, kOk (lo_dp g1 g2) (KI_dp e3 hx hA.1 g1 g2 K) ?_ (by omega) (by omega)⟩
        have e : ∀ j, C2.1 24 j = C.1 24 j := fun j => by
          rw [g2.1, g1.1]
          unfold dpC
          rw [sI_1, if_neg (by omega), sI_1, if_neg (by omega), sI_1, if_neg (by omega)]
          rfl
        rw [e, e]
        exact h24
    · have e1 : a1 = 39 := e1
      have e2 : a2 = nI s := e2
      subst e1 e2
      rw [xDrp_g hx e3]
      have h5 : C.1 20 5 = nI s := hQ.2
      have hn : C.2.2 20 4 = some 39 := hQ.1
      refine p_100 (d := d + 63) (m_101_17g (d := d + 62) (sl := 0) hv hu hn) (c_100_17g (d := d + 63) hv hn h5 (m_104 (d := d + 63) (sl := 0) e3) (fun v h q hq => ?_))
      obtain ⟨rfl, rfl, rfl⟩ := hq
      exact ⟨rfl, kOk (loE_Q (by omega)) (KI_G (x := none) (G := none) e3 rfl K) h24 (by omega) (by omega)⟩
/-! changes -/
set_option maxRecDepth 100000 in
theorem stY_l {m : Nat} (h : stY t t' m) : t'.length ≤ t.length + 1 ∧ m ≤ 6 := by
  obtain ⟨t1, h1, ⟨e, e2⟩ | ⟨e, e2⟩⟩ := h
  · rw [e, h1.1]
    omega
  · rw [e, List.length_append, h1.1]
    exact ⟨Nat.le_refl _, by omega⟩
set_option maxRecDepth 100000 in
theorem KI_ch {rs : rs_T} (f : frC C C') (hl : stY (msk (mBk Ks) u) (msk (mBk Ks) t') k) (fv : frVm (mBk Ks) u t') (hR : KRo C' (wW W) rs) (K : KI C u Ks W) : KI C' t' Ks (wT W, wG W, rs, wX W) := by
  obtain ⟨k1, k2, k3, k4, k5⟩ := K
  have k2' : KSc C' (msk (mBk Ks) t') W := KSc_g ⟨fun j => f.1 8 j (by omega) (by omega) (by omega) (by omega), fun k j h => f.2.1 k j (by omega) (by omega) (by omega) (by omega), fun k j _ => by rw [f.2.2]⟩ (tlK_y hl) k2
  exact ⟨bkO_f k1 fv, k2', hR, KTx_g (fun j h => f.1 6 j (by omega) (by omega) (by omega) (by omega)) (fun j => f.2.1 19 j (by omega) (by omega) (by omega) (by omega)) k4, KAs_g (fun k j _ => by rw [f.2.2]) fv k4.2.2.2.1 k5⟩
set_option maxRecDepth 100000 in
theorem chgR_b {S : st_T} {a : ac_T} {rs : rs_T} {p : Nat → Bool} : (chgR S a rs p).1.1 = 0 ∨ (2 ≤ (chgR S a rs p).1.1 ∧ (chgR S a rs p).1.1 ≤ 6) := by
  have h := chg_ok (S := S) (rec := stp S 12) (a := a) (N := noF) (O := noF) (σ := (rs, 0, 0)) (fun kd t i O N σ => stp_ok 12 kd t i O N σ)
  unfold chgR
  split
  · next e he => exact Or.inr (h e he)
  · split
    · exact Or.inl rfl
    · exact Or.inr ⟨by show 2 ≤ 2; omega, by show 2 ≤ 6; omega⟩
set_option maxRecDepth 100000 in
theorem chgR_1 {a : ac_T} (z : (xChg W a).1 = 1) : False := by
  have := chgR_b (S := wS W) (a := a) (rs := wR W) (p := fun i => !xWt (wX W) i)
  have z : (chgR (wS W) a (wR W) (fun i => !xWt (wX W) i)).1.1 = 1 := z
  omega
set_option maxRecDepth 100000 in
theorem ex_ch {a : ac_T} {kv : Nat} (hA : wAll W) (hok : okA2 (wW W) 0 0 0 a) (hk : aKd a < 3) (hQ : ∃ k, C.2.2 20 8 = some (241 + k) ∧ ACn (msk (mBk Ks) u) k a) (K : KI C u Ks W) (hkv : kv = 18 ∨ kv = 41 ∨ kv = 15) (hv : C.2.2 20 3 = some kv) (h24 : C.1 24 7 = 0 ∧ C.1 24 8 = 0) : Wd L xs (d + 64) y_100 (0, [(0, .ref 100)], [], MH C u, 0) (PXk C u (xChg W a)) nX := by
  have hM : ∀ j, mBk Ks j = true → j < u.length := bkO_h K.1
  obtain ⟨k, h8, hAc⟩ := hQ
  have hAk : ACK (msk (mBk Ks) u) k a := by
    obtain ⟨kc, ks, fc, fs, vw, g1, _⟩ := hAc
    exact ⟨kc, ks, fc, fs, vw, g1⟩
  have wc := m_105 (L := L) (xs := xs) (d := d) (sl := 0) (S := wS W) (rs := wR W) (wt := xWt (wX W)) (w := C.1 6 8) (okSt_w hA.1) (KS_I K.2.1) ⟨K.2.2.1.1, K.2.2.1.2, h24.1, Nat.zero_le _, h24.2, Nat.zero_le _⟩ hAk hok hk rfl K.2.2.2.1.2.1
  have wc' := W_mk (M := mBk Ks) (u := u) (Q := fun v C' t' q => some (.int (nI (xChg W a).1)) = v ∧ (∃ x, KE C' (wW W) (chgR (wS W) a (wR W) (fun i => !xWt (wX W) i)).2 ∧ (((xChg W a).1 = 2 → C'.1 24 9 = (chgR (wS W) a (wR W) (fun i => !xWt (wX W) i)).1.2.1 ∧ C'.1 24 10 = (chgR (wS W) a (wR W) (fun i => !xWt (wX W) i)).1.2.2) ∧ ((xChg W a).1 = 3 → C'.1 24 11 = (chgR (wS W) a (wR W) (fun i => !xWt (wX W) i)).1.2.1)) ∧ frC C C' ∧ stY (msk (mBk Ks) u) t' x ∧ 0 + x = q)) (QX := fun _ _ _ _ => False) wc hM (fun v h q hq => by
    obtain ⟨e1, C', t', x, ⟨e2, e3, e4, e5⟩, e6, e7⟩ := hq
    exact ⟨C', t', e6, e1, x, e2, e3, e4, e5, e7⟩) (fun a h q e => e.elim)
  have wc2 : Wd L xs (d + 63) y_105 (0, [(0, .ref 124), (1, .ref (241 + k))], [], MH C u, 0) (PXk C u (xChg W a)) nX := by
    refine Wd_q wc' (fun v h q hq => ?_) (fun a h q e => ?_)
    · obtain ⟨C', u', rfl, ⟨rfl, x, e2, e3, e4, e5, e6⟩, fv⟩ := hq
      have l := stY_l e5
      rw [msk_l, msk_l] at l
      refine ⟨rfl, ⟨C', u', Ks, ⟨KI_ch e4 e5 fv ⟨e2.1, e2.2.1⟩ K, ⟨fun z => ?_, fun z => e3.1 z, fun z => e3.2 z, e2.2.2.1, e2.2.2.2.2.1⟩, by omega, loE_k (fun k j hk => e4.1 k j (by omega) (by omega) (by omega) (by omega)) (fun k j hk => e4.2.1 k j (by omega) (by omega) (by omega) (by omega)) (fun k j hk => by rw [e4.2.2])⟩, rfl⟩, by omega⟩
      exfalso
      exact chgR_1 z
    · obtain ⟨_, _, _, e, _⟩ := e
      exact e
  have hP : ∀ v h q, PXk C u (xChg W a) v h q → ∃ x, some (.int x) = v ∧ PXk C u (xChg W a) v h (0 + q) := fun v h q hq => ⟨_, hq.1, by rw [Nat.zero_add]; exact hq⟩
  rcases hkv with rfl | rfl | rfl
  · exact p_100 (d := d + 63) (m_101_18 (d := d + 62) (sl := 0) hv) (c_100_18 (d := d + 63) hv h8 wc2 hP)
  · exact p_100 (d := d + 63) (m_101_41 (d := d + 62) (sl := 0) hv) (c_100_41 (d := d + 63) hv h8 wc2 hP)
  · exact p_100 (d := d + 63) (m_101_15 (d := d + 62) (sl := 0) hv) (c_100_15 (d := d + 63) hv h8 wc2 hP)
end KDC
