
/-! ONE SIDE AND THE WORLD: LATER, NOW, MARK -/
section KLN
variable {L : Nat} {xs : Nat → Int32} {B : Nat → Nat} {n m d sl : Nat} {C C' C1 : co_T} {t t' u u' t1 : ab_H} {Ks Ks' : List Nat} {W : wo_T} {M : Nat → Bool} {k i nn : Nat} {ru : Nat → Option ru_T} {wd : Nat → Nat} {rs : rs_T} {S : st_T} {a : Int32} {v : Int64}
set_option maxRecDepth 100000 in
theorem nmB_t : nmB true ru a i = (btI a i && ltU (ru i)) := by
  unfold nmB
  cases ru i with
  | none => rfl
  | some u => rfl
set_option maxRecDepth 100000 in
theorem nmB_f (h : ru i ≠ none) : nmB false ru a i = btI a i := by
  unfold nmB
  cases e : ru i with
  | none => exact absurd e h
  | some u => exact Bool.and_true _
set_option maxRecDepth 100000 in
theorem KI_wt {x : Int32} {f : Nat → Bool} (hx : ∀ i, i < 24 → btI x i = f i) (K : KI C u Ks W) : KI (sI C 6 8 x) u Ks (wT W, wG W, wR W, wtX (wX W) f) := by
  obtain ⟨k1, k2, k3, k4, k5⟩ := K
  have e : ∀ k j, ¬ (k = 6 ∧ j = 8) → (sI C 6 8 x).1 k j = C.1 k j := fun k j h => by rw [sI_1, if_neg h]
  refine ⟨k1, KSc_g (W := W) ⟨fun j => e 8 j (by omega), fun _ _ _ => rfl, fun _ _ _ => rfl⟩ (tlK_e tlE_r) k2, KRo_g (fun k j h => e k j (by omega)) (fun _ => rfl) k3, ⟨(e 6 7 (by omega)).trans k4.1, fun i hi => ?_, (e 6 12 (by omega)).trans k4.2.2.1, k4.2.2.2⟩, k5⟩
  rw [sI_1, if_pos ⟨rfl, rfl⟩]
  exact hx i hi
set_option maxRecDepth 100000 in
theorem xLat_out (h : xIn (wX W) = false) : xLat W a = xNo W := by unfold xLat; rw [h]; rfl
set_option maxRecDepth 100000 in
theorem xLat_in (h : xIn (wX W) = true) : xLat W a = xOk (wT W, wG W, wR W, wtX (wX W) (fun i => xWt (wX W) i || nmB true (wU W) a i)) := by unfold xLat; rw [h]; rfl
set_option maxRecDepth 100000 in
theorem ex_20 (hQ : C.1 20 7 = a) (K : KI C u Ks W) (hv : C.2.2 20 3 = some 20) (h10 : C.1 20 10 = -1) (h24 : C.1 24 7 = 0 ∧ C.1 24 8 = 0) : Wd L xs (d + 64) y_100 (0, [(0, .ref 100)], [], MH C u, 0) (PXk C u (xLat W a)) nX := by
  have hM : ∀ j, mBk Ks j = true → j < u.length := bkO_h K.1
  cases hx : xIn (wX W) with
  | false =>
    rw [xLat_out hx]
    exact kNo K h10 h24 (m_101_20 (d := d + 62) (sl := 0) (u := false) hv (by rw [← hx]; exact K.2.2.2.1.1))
  | true =>
    rw [xLat_in hx]
    have wp := m_101_20 (L := L) (xs := xs) (d := d + 62) (sl := 0) (t := u) (u := true) hv (by rw [← hx]; exact K.2.2.2.1.1)
    have w := W_mR (M := mBk Ks) (t := u) (m_150 (L := L) (xs := xs) (d := d + 63) (sl := 0) (t := msk (mBk Ks) u) K.2.1.1.2.2) hM
    refine p_100 (d := d + 63) wp (c_100_20 (d := d + 63) hv hQ w (kOk (loE_I (by omega)) (KI_wt (fun i hi => ?_) K) ?_ (by omega) (by omega)))
    · rw [bbI_or, bbI_and, wtI_q hi, K.2.2.2.1.2.1 i hi, nmB_t]
      rfl
    · exact ⟨(by rw [sI_1, if_neg (by omega)]; exact h24.1), (by rw [sI_1, if_neg (by omega)]; exact h24.2)⟩
set_option maxRecDepth 100000 in
theorem xNow_out (h : xIn (wX W) = false) : xNow W a = xNo W := by unfold xNow; rw [h]; rfl
set_option maxRecDepth 100000 in
theorem xNow_n (h : xIn (wX W) = true) (e : lkR (wS W) (wR W) (nmB false (wU W) a) (rng 0 24) = none) : xNow W a = xOk (wT W, wG W, wR W, wtX (wX W) (fun i => xWt (wX W) i && !nmB false (wU W) a i)) := by unfold xNow; rw [h, e]; rfl
set_option maxRecDepth 100000 in
theorem xNow_s {x : Nat × Int32} (h : xIn (wX W) = true) (e : lkR (wS W) (wR W) (nmB false (wU W) a) (rng 0 24) = some x) : xNow W a = (2, vv (nI x.1) x.2 0 0 0, W) := by unfold xNow; rw [h, e]; rfl
set_option maxRecDepth 100000 in
theorem ex_26 (hA : wAll W) (hQ : C.1 20 7 = a) (K : KI C u Ks W) (hv : C.2.2 20 3 = some 26) (h10 : C.1 20 10 = -1) (h24 : C.1 24 7 = 0 ∧ C.1 24 8 = 0) : Wd L xs (d + 64) y_100 (0, [(0, .ref 100)], [], MH C u, 0) (PXk C u (xNow W a)) nX := by
  cases hx : xIn (wX W) with
  | false =>
    rw [xNow_out hx]
    exact kNo K h10 h24 (m_101_26 (d := d + 62) (sl := 0) (u := false) hv (by rw [← hx]; exact K.2.2.2.1.1))
  | true =>
    have wp := m_101_26 (L := L) (xs := xs) (d := d + 62) (sl := 0) (t := u) (u := true) hv (by rw [← hx]; exact K.2.2.2.1.1)
    refine p_100 (d := d + 63) wp (c_100_26 (d := d + 63) hv hQ (w_145 (d := d + 58) (p := nmB false (wU W) a) hA (fun i hi hz => (nmB_f hz).symm) K) (fun v h q hq => ?_))
    obtain ⟨rfl, ⟨u', ⟨s1, fv⟩, rfl⟩, rfl⟩ := hq
    have l1 : u'.length = u.length := by
      have := s1.1
      rwa [msk_l, msk_l] at this
    cases hl : lkR (wS W) (wR W) (nmB false (wU W) a) (rng 0 24) with
    | none =>
      rw [xNow_n hx hl]
      have K2 := KI_lk (x := none) (tlK_k s1) fv K
      refine ⟨0, lkC C none, u', _, rfl, rfl, m_157_0 (d := d + 63) (sl := 0), fun v2 h2 q2 hq2 => ?_⟩
      obtain ⟨rfl, rfl, rfl⟩ := hq2
      refine ⟨nI 0, rfl, kOk (loE_t lk_lo (loE_I (by omega))) (KI_wt (fun i hi => ?_) K2) ?_ (by omega) (by omega)⟩
      · rw [bbI_and, bbI_xor, bbI_m1 i (by omega), K2.2.2.2.1.2.1 i hi]
        show (xWt (wX W) i && (btI a i ^^ true)) = (xWt (wX W) i && !nmB false (wU W) a i)
        by_cases hz : wU W i = none
        · rw [hA.1.2.2.2.1.1 i hz]
          rfl
        · rw [nmB_f hz]
          cases btI a i <;> rfl
      · exact ⟨(by rw [sI_1, if_neg (by omega)]; exact h24.1), (by rw [sI_1, if_neg (by omega)]; exact h24.2)⟩
    | some x =>
      rw [xNow_s hx hl]
      have K2 := KI_lk (x := some x) (tlK_k s1) fv K
      refine ⟨2, lkC C (some x), u', _, rfl, rfl, m_157_e (d := d + 63) (sl := 0) (e := 2) (by omega) (by omega), fun v2 h2 q2 hq2 => ?_⟩
      obtain ⟨rfl, rfl, rfl⟩ := hq2
      exact ⟨nI 2, rfl, rfl, ⟨lkC C (some x), u', Ks, ⟨K2, ⟨fun z => (by cases z), fun _ => lkC_s, fun z => (by cases z), (lkC_1 (by omega)).trans h24.1, (lkC_1 (by omega)).trans h24.2⟩, by omega, lk_lo⟩, rfl⟩, by omega⟩
set_option maxRecDepth 100000 in
theorem am_lo (h : amP C C' i nn v k) : loE C C' := loE_k (fun q j hk => h.1 q j (by omega)) (fun q j hk => by rw [h.2.2.1, if_neg (by omega)]) (fun q j hk => by rw [h.2.2.2, if_neg (by omega)])
/-! marks -/
set_option maxRecDepth 100000 in
theorem KI_mk {s0 : Nat} (hP : amP C C' i nn v k) (hs0 : s0 = i + 1) (hi : i < nn) (h6 : nn ≤ 6) (ho : nn = (xMk (wX W)).1 ∨ (i = (xMk (wX W)).1 ∧ nn = (xMk (wX W)).1 + 1)) (hb : bkO Ks' t'.length) (hm : tlE (msk (mBk Ks) u) (msk (mBk Ks') t')) (hp : asP C' t' Ks') (hR : RWt t' k (wW W) (wR W)) (hk : ∀ s k0 rs0, s < 7 → s ≠ s0 → asK C s = some (241 + k0) → RWt u k0 (wW W) rs0 → RWt t' k0 (wW W) rs0) (K : KI C u Ks W) : KI C' t' Ks' (wT W, wG W, wR W, mkX (wX W) (wR W) v i nn) := by
  obtain ⟨k1, k2, k3, k4, k5⟩ := K
  obtain ⟨p1, p2, p3, p4⟩ := hP
  have e3 : ∀ kk q, kk ≠ 18 → C'.2.2 kk q = C.2.2 kk q := fun kk q h => by rw [p4, if_neg (by omega)]
  have e2 : ∀ kk q, kk ≠ 19 → C'.2.1 kk q = C.2.1 kk q := fun kk q h => by rw [p3, if_neg (by omega)]
  refine ⟨hb, KSc_g (W := W) ⟨fun j => p1 8 j (by omega), fun kk j h => e2 kk j (by omega), fun kk j h => e3 kk j (by omega)⟩ (tlK_e hm) k2, KRo_g (fun kk j h => p1 kk j (by omega)) (fun j => e2 14 j (by omega)) k3, ⟨(p1 6 7 (by omega)).trans k4.1, fun i hi => (by rw [p1 6 8 (by omega)]; exact k4.2.1 i hi), p2, h6, fun j hj => ?_⟩, hp, fun z => ?_, fun j hj => ?_⟩
  · have hj : j < nn := hj
    rw [p3]
    show _ = shF (xMk (wX W)).2 v i nn j
    unfold shF
    by_cases z : i ≤ j ∧ j < nn
    · rw [if_pos ⟨rfl, z⟩, if_pos z]
      by_cases y : j + 1 = nn
      · rw [if_pos y, if_pos y]
      · rw [if_neg y, if_neg y]
        exact k4.2.2.2.2 (j + 1) (by omega)
    · rw [if_neg (fun x => z x.2), if_neg z]
      exact k4.2.2.2.2 j (by omega)
  · obtain ⟨kb, b1, b2⟩ := k5.2.1 z
    exact ⟨kb, (e3 6 9 (by omega)).trans b1, hk 0 kb _ (by omega) (by omega) b1 b2⟩
  · have hj : j < nn := hj
    show ∃ k0, C'.2.2 18 j = some (241 + k0) ∧ RWt t' k0 (wW W) (shF (xMr (wX W)) (wR W) i nn j)
    rw [p4]
    unfold shF
    by_cases z : i ≤ j ∧ j < nn
    · rw [if_pos ⟨rfl, z⟩, if_pos z]
      by_cases y : j + 1 = nn
      · rw [if_pos y, if_pos y]
        exact ⟨k, rfl, hR⟩
      · rw [if_neg y, if_neg y]
        obtain ⟨kb, b1, b2⟩ := k5.2.2 (j + 1) (by omega)
        exact ⟨kb, b1, hk (j + 2) kb _ (by omega) (by omega) b1 b2⟩
    · rw [if_neg (fun x => z x.2), if_neg z]
      obtain ⟨kb, b1, b2⟩ := k5.2.2 j (by omega)
      exact ⟨kb, b1, hk (j + 1) kb _ (by omega) (by omega) b1 b2⟩
set_option maxRecDepth 100000 in
theorem xMrk_out (h : xIn (wX W) = false) : xMrk W v = xNo W := by unfold xMrk; rw [h]; rfl
set_option maxRecDepth 100000 in
theorem xMrk_in {p : Nat × Nat} (h : xIn (wX W) = true) (hp : mkI (wX W) v = p) : xMrk W v = xOk (wT W, wG W, wR W, mkX (wX W) (wR W) v p.1 p.2) := by unfold xMrk; rw [h, hp]; rfl
set_option maxRecDepth 100000 in
theorem ex_22 (hA : wAll W) (hn : ¬ (mkF (xMk (wX W)) v = -1 ∧ 6 ≤ (xMk (wX W)).1)) (hQ : C.2.1 20 6 = v) (K : KI C u Ks W) (hv : C.2.2 20 3 = some 22) (h10 : C.1 20 10 = -1) (h24 : C.1 24 7 = 0 ∧ C.1 24 8 = 0) : Wd L xs (d + 64) y_100 (0, [(0, .ref 100)], [], MH C u, 0) (PXk C u (xMrk W v)) nX := by
  have hM : ∀ j, mBk Ks j = true → j < u.length := bkO_h K.1
  cases hx : xIn (wX W) with
  | false =>
    rw [xMrk_out hx]
    exact kNo K h10 h24 (m_101_22 (d := d + 62) (sl := 0) (u := false) hv (by rw [← hx]; exact K.2.2.2.1.1))
  | true =>
    have wp := m_101_22 (L := L) (xs := xs) (d := d + 62) (sl := 0) (t := u) (u := true) hv (by rw [← hx]; exact K.2.2.2.1.1)
    have h6 := hA.1.2.2.2.1.2.2
    have MK := K.2.2.2.1.2.2
    have A := K.2.2.2.2.1
    have h24' : ∀ C2 k i nn, amP C C2 i nn v k → C2.1 24 7 = 0 ∧ C2.1 24 8 = 0 := fun C2 k i nn hP => ⟨(hP.1 24 7 (by omega)).trans h24.1, (hP.1 24 8 (by omega)).trans h24.2⟩
    by_cases hf : mkF (xMk (wX W)) v = -1
    · have h5 : (xMk (wX W)).1 < 6 := Nat.lt_of_not_le (fun z => hn ⟨hf, z⟩)
      have hp : mkI (wX W) v = ((xMk (wX W)).1, (xMk (wX W)).1 + 1) := if_pos hf
      rw [xMrk_in hx hp]
      have hF : fnd (fun i => decide (C.2.1 19 i = v)) (xMk (wX W)).1 0 = -1 := (mkF_K MK v).trans hf
      rcases A.1 ((xMk (wX W)).1 + 1) (by omega) with e | ⟨k, e, e1, e2⟩
      · have e : C.2.2 18 (xMk (wX W)).1 = none := e
        refine p_100 (d := d + 63) wp (c_100_22 (d := d + 63) hv hQ (m_156n (d := d + 60) (sl := 0) h5 MK.1 hF e K.2.2.1.1 K.2.2.1.2) (fun v' h q hq => ?_))
        obtain ⟨rfl, ⟨C2, t2, ⟨hP, l1, l2, l3⟩, rfl⟩, q1⟩ := hq
        obtain ⟨qq, rfl⟩ := tlE_x l2
        have lq : qq.length = 5 := by rw [List.length_append] at l1; omega
        refine ⟨rfl, kOk (am_lo hP) (KI_mk (Ks' := u.length :: Ks) hP rfl (Nat.lt_succ_self _) (by omega) (Or.inr ⟨rfl, rfl⟩) (by rw [l1]; exact bkO_c K.1) (by rw [msk_c K.1 lq]; exact tlE_a) (asP_new (s0 := (xMk (wX W)).1 + 1) ?_ (fun s hs hne => ?_) K.1 l2 (RWt_x l3) A) l3 (fun s k0 rs0 _ _ _ r => RWt_E l2 r) K) (h24' _ _ _ _ hP) (by omega) (by omega)⟩
        · show C2.2.2 18 (xMk (wX W)).1 = _
          rw [hP.2.2.2, if_pos ⟨rfl, Nat.le_refl _, Nat.lt_succ_self _⟩, if_pos rfl]
        · unfold asK
          split
          · rw [hP.2.2.2, if_neg (by omega)]
          · rw [hP.2.2.2, if_neg (by omega)]
      · have e : C.2.2 18 (xMk (wX W)).1 = some (241 + k) := e
        obtain ⟨ce, id, sz, la, R⟩ := e2
        refine p_100 (d := d + 63) wp (c_100_22 (d := d + 63) hv hQ (m_156y (d := d + 60) (sl := 0) h5 MK.1 hF e R K.2.2.1.1 K.2.2.1.2) (fun v' h q hq => ?_))
        obtain ⟨rfl, ⟨C2, t2, ⟨hP, l2, l3⟩, rfl⟩, rfl⟩ := hq
        have hkk : ∀ s k0, s < 7 → s ≠ (xMk (wX W)).1 + 1 → asK C s = some (241 + k0) → k0 ≠ k := fun s k0 hs hne h1 h2 => hne (A.2 s _ k0 hs (by omega) h1 (by rw [h2]; exact e))
        refine ⟨rfl, kOk (am_lo hP) (KI_mk (Ks' := Ks) hP rfl (Nat.lt_succ_self _) (by omega) (Or.inr ⟨rfl, rfl⟩) (by rw [l2.1]; exact K.1) (by rw [msk_U e1 l2]; exact tlE_r) (asP_old (p := fun s => s) (s0 := (xMk (wX W)).1 + 1) (fun s hs => ⟨hs, ?_⟩) (fun s s' _ _ z => z) (by omega) e K.1 l2 (RWt_x l3) A) l3 (fun s k0 rs0 hs hne h1 r => RWt_U (K.1.2 k0 k (KAs_k A hs h1) e1 (hkk s k0 hs hne h1)) l2 r) K) (h24' _ _ _ _ hP) (by rw [l2.1]; omega) (by omega)⟩
        unfold asK
        split
        · rw [hP.2.2.2, if_neg (by omega)]
        · rw [hP.2.2.2]
          split
          · next z =>
            have : s - 1 = (xMk (wX W)).1 := by omega
            rw [this, if_pos rfl]
            exact e.symm
          · rfl
    · obtain ⟨i, f1, f2, f3⟩ := mkF_b h6 hf
      have hp : mkI (wX W) v = (i, (xMk (wX W)).1) := by
        unfold mkI
        rw [if_neg hf, f3]
      rw [xMrk_in hx hp]
      have hF : fnd (fun i => decide (C.2.1 19 i = v)) (xMk (wX W)).1 0 = nI i := (mkF_K MK v).trans f1
      obtain ⟨k, e, e2⟩ := K.2.2.2.2.2.2 i f2
      have e1 : k ∈ Ks := KAs_k A (s := i + 1) (by omega) e
      have hkk : ∀ s k0, s < 7 → s ≠ i + 1 → asK C s = some (241 + k0) → k0 ≠ k := fun s k0 hs hne h1 h2 => hne (A.2 s _ k0 hs (by omega) h1 (by rw [h2]; exact e))
      obtain ⟨ce, id, sz, la, R, _⟩ := e2
      have hq : mkR C u i (xMk (wX W)).1 := fun q h1 h2 => by
        obtain ⟨kk, g1, ce', id', sz', la', ⟨g2, _⟩, _⟩ := K.2.2.2.2.2.2 q h2
        exact ⟨kk, _, g1, g2⟩
      refine p_100 (d := d + 63) wp (c_100_22 (d := d + 63) hv hQ (m_156f (d := d + 60) (sl := 0) (i := i) (f := (xMk (wX W)).1 - i - 1) h6 (by omega) MK.1 hF hq e R K.2.2.1.1 K.2.2.1.2) (fun v' h q hq => ?_))
      obtain ⟨rfl, ⟨C2, t2, ⟨hP, l2, l3⟩, rfl⟩, rfl⟩ := hq
      refine ⟨rfl, kOk (am_lo hP) (KI_mk (Ks' := Ks) hP rfl f2 h6 (Or.inl rfl) (by rw [l2.1]; exact K.1) (by rw [msk_U e1 l2]; exact tlE_r) (asP_old (p := fun s => if s = 0 then 0 else if i ≤ s - 1 ∧ s - 1 < (xMk (wX W)).1 then (if s = (xMk (wX W)).1 then i + 1 else s + 1) else s) (s0 := i + 1) (fun s hs => ⟨?_, ?_⟩) (fun s s' h1 h2 z => ?_) (by omega) e K.1 l2 (RWt_x l3) A) l3 (fun s k0 rs0 hs hne h1 r => RWt_U (K.1.2 k0 k (KAs_k A hs h1) e1 (hkk s k0 hs hne h1)) l2 r) K) (h24' _ _ _ _ hP) (by rw [l2.1]; omega) (by omega)⟩
      · show (if s = 0 then 0 else if i ≤ s - 1 ∧ s - 1 < (xMk (wX W)).1 then (if s = (xMk (wX W)).1 then i + 1 else s + 1) else s) < 7
        split
        · omega
        · split
          · split <;> omega
          · exact hs
      · show asK C2 s = asK C (if s = 0 then 0 else if i ≤ s - 1 ∧ s - 1 < (xMk (wX W)).1 then (if s = (xMk (wX W)).1 then i + 1 else s + 1) else s)
        by_cases y : s = 0
        · rw [if_pos y, y]
          show C2.2.2 6 9 = C.2.2 6 9
          rw [hP.2.2.2, if_neg (by omega)]
        · rw [if_neg y]
          have e5 : asK C2 s = C2.2.2 18 (s - 1) := if_neg y
          rw [e5, hP.2.2.2]
          by_cases z : i ≤ s - 1 ∧ s - 1 < (xMk (wX W)).1
          · rw [if_pos ⟨rfl, z⟩, if_pos z]
            by_cases w : s = (xMk (wX W)).1
            · rw [if_pos (by omega), if_pos w]
              exact e.symm
            · rw [if_neg (by omega), if_neg w]
              show C.2.2 18 (s - 1 + 1) = C.2.2 18 (s + 1 - 1)
              rw [show s - 1 + 1 = s + 1 - 1 by omega]
          · rw [if_neg (fun x => z x.2), if_neg z]
            exact (if_neg y).symm
      · have z : (if s = 0 then 0 else if i ≤ s - 1 ∧ s - 1 < (xMk (wX W)).1 then (if s = (xMk (wX W)).1 then i + 1 else s + 1) else s) = (if s' = 0 then 0 else if i ≤ s' - 1 ∧ s' - 1 < (xMk (wX W)).1 then (if s' = (xMk (wX W)).1 then i + 1 else s' + 1) else s') := z
        split at z <;> split at z <;> (try split at z) <;> (try split at z) <;> (try split at z) <;> (try split at z) <;> omega
end KLN
