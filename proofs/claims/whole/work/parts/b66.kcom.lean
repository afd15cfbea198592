
/-! ONE SIDE AND THE WORLD: COMMIT, ROLLBACK, LATER, NOW -/
section KCR
variable {L : Nat} {xs : Nat → Int32} {B : Nat → Nat} {n m d sl : Nat} {C C' C1 : co_T} {t t' u u' t1 : ab_H} {Ks : List Nat} {W : wo_T} {M : Nat → Bool} {k i : Nat} {ru : Nat → Option ru_T} {wd : Nat → Nat} {rs : rs_T} {S : st_T}
set_option maxRecDepth 100000 in
theorem lkR_x {p q : Nat → Bool} : ∀ (l : List Nat), (∀ i, i ∈ l → sRu S i ≠ none → p i = q i) → lkR S rs p l = lkR S rs q l
  | [], _ => rfl
  | i :: l, h => by
    have ih := lkR_x l (fun j hj => h j (List.mem_cons_of_mem _ hj))
    show (match sRu S i with
      | none => lkR S rs p l
      | some u => bif p i && !decide (fbk u rs = -1) then some (i, fbk u rs) else lkR S rs p l) = (match sRu S i with
      | none => lkR S rs q l
      | some u => bif q i && !decide (fbk u rs = -1) then some (i, fbk u rs) else lkR S rs q l)
    cases e : sRu S i with
    | none => exact ih
    | some u =>
      show (bif p i && !decide (fbk u rs = -1) then some (i, fbk u rs) else lkR S rs p l) = _
      rw [h i (List.mem_cons_self ..) (by rw [e]; intro z; cases z), ih]
set_option maxRecDepth 100000 in
theorem rng_x : ∀ (m k j : Nat), j ∈ rng k m → k ≤ j ∧ j < k + m
  | 0, k, j, h => by cases h
  | m + 1, k, j, h => by
    rcases List.mem_cons.mp h with rfl | h
    · omega
    · have := rng_x m (k + 1) j h
      omega
set_option maxRecDepth 100000 in
theorem lkR_s {p : Nat → Bool} : ∀ (l : List Nat) {i : Nat} {id : Int32}, lkR S rs p l = some (i, id) → i ∈ l
  | [], i, id, h => by cases h
  | j :: l, i, id, h => by
    have h : (match sRu S j with
      | none => lkR S rs p l
      | some u => bif p j && !decide (fbk u rs = -1) then some (j, fbk u rs) else lkR S rs p l) = some (i, id) := h
    cases e : sRu S j with
    | none =>
      rw [e] at h
      exact List.mem_cons_of_mem _ (lkR_s l h)
    | some u =>
      rw [e] at h
      have h : (bif p j && !decide (fbk u rs = -1) then some (j, fbk u rs) else lkR S rs p l) = some (i, id) := h
      cases hb : (p j && !decide (fbk u rs = -1)) with
      | true =>
        rw [hb] at h
        injection h with h
        injection h with h1 h2
        rw [h1]
        exact List.mem_cons_self ..
      | false =>
        rw [hb] at h
        exact List.mem_cons_of_mem _ (lkR_s l h)
/-! the end of a transaction -/
set_option maxRecDepth 100000 in
theorem en_1 {j q : Nat} (h : ¬ (q = 6 ∧ (j = 7 ∨ j = 8 ∨ j = 12))) : (enC C).1 q j = C.1 q j := by
  show (sI (sI (sI C 6 7 0) 6 8 0) 6 12 0).1 q j = _
  rw [sI_1, if_neg (by omega), sI_1, if_neg (by omega), sI_1, if_neg (by omega)]
set_option maxRecDepth 100000 in
theorem en_6 : (enC C).1 6 7 = 0 ∧ (enC C).1 6 8 = 0 ∧ (enC C).1 6 12 = 0 := by
  refine ⟨?_, ?_, ?_⟩
  · show (sI (sI (sI C 6 7 0) 6 8 0) 6 12 0).1 6 7 = _
    rw [sI_1, if_neg (by omega), sI_1, if_neg (by omega), sI_1, if_pos ⟨rfl, rfl⟩]
  · show (sI (sI (sI C 6 7 0) 6 8 0) 6 12 0).1 6 8 = _
    rw [sI_1, if_neg (by omega), sI_1, if_pos ⟨rfl, rfl⟩]
  · show (sI (sI (sI C 6 7 0) 6 8 0) 6 12 0).1 6 12 = _
    rw [sI_1, if_pos ⟨rfl, rfl⟩]
set_option maxRecDepth 100000 in
theorem en_lo (h : loE C C') : loE C (enC C') := loE_t h (loE_k (fun q j hk => en_1 (by omega)) (fun _ _ _ => rfl) (fun _ _ _ => rfl))
set_option maxRecDepth 100000 in
theorem bk_lo (h : frR 13 C C') : loE C C' := loE_k (fun q j hk => h.1 q j (by omega)) (fun q j hk => h.2.1 q j (by omega)) (fun q j hk => by rw [h.2.2])
set_option maxRecDepth 100000 in
theorem KI_en (hI : ∀ k j, k ≠ 24 → ¬ (15 ≤ k ∧ k ≤ 17) → C'.1 k j = C.1 k j) (hJ : ∀ k j, k ≠ 14 → C'.2.1 k j = C.2.1 k j) (hQ : C'.2.2 = C.2.2) (hl : tlK (msk (mBk Ks) u) (msk (mBk Ks) u')) (fv : frVm (mBk Ks) u u') (hR : KRo C' (wW W) rs) (K : KI C u Ks W) : KI (enC C') u' Ks (wT W, wG W, rs, enD (wX W)) := by
  obtain ⟨k1, k2, k3, k4, k5⟩ := K
  have ka := KAs_g (C' := enC C') (fun k j _ => (by show C'.2.2 k j = _; rw [hQ])) fv k4.2.2.2.1 k5
  refine ⟨bkO_f k1 fv, KSc_g (W := W) ⟨fun j => (en_1 (by omega)).trans (hI 8 j (by omega) (by omega)), fun k j h => hJ k j (by omega), fun k j _ => (by show C'.2.2 k j = _; rw [hQ])⟩ hl k2, KRo_g (fun k j h => en_1 (by omega)) (fun _ => rfl) hR, ⟨en_6.1, fun i _ => (by rw [en_6.2.1]; exact bbI_0 i), en_6.2.2, Nat.zero_le 6, fun j hj => absurd hj (Nat.not_lt_zero j)⟩, ka.1, fun z => (by cases z), fun j hj => absurd hj (Nat.not_lt_zero j)⟩
set_option maxRecDepth 100000 in
theorem bkP_K (h : bkP C C' wd rs) : KRo C' wd rs := h.2
set_option maxRecDepth 100000 in
theorem lkC_1 {x : Option (Nat × Int32)} {k j : Nat} (h : ¬ (k = 24 ∧ (j = 9 ∨ j = 10))) : (lkC C x).1 k j = C.1 k j := by
  cases x with
  | none => rfl
  | some e =>
    obtain ⟨e1, e2⟩ := e
    show (sI (sI C 24 9 (nI e1)) 24 10 e2).1 k j = _
    rw [sI_1, if_neg (by omega), sI_1, if_neg (by omega)]
set_option maxRecDepth 100000 in
theorem lkC_2 {x : Option (Nat × Int32)} : (lkC C x).2 = C.2 := by
  cases x with
  | none => rfl
  | some e => rfl
set_option maxRecDepth 100000 in
theorem lkC_s {e : Nat × Int32} : (lkC C (some e)).1 24 9 = nI e.1 ∧ (lkC C (some e)).1 24 10 = e.2 := by
  obtain ⟨e1, e2⟩ := e
  refine ⟨?_, ?_⟩
  · show (sI (sI C 24 9 (nI e1)) 24 10 e2).1 24 9 = _
    rw [sI_1, if_neg (by omega), sI_1, if_pos ⟨rfl, rfl⟩]
  · show (sI (sI C 24 9 (nI e1)) 24 10 e2).1 24 10 = _
    rw [sI_1, if_pos ⟨rfl, rfl⟩]
set_option maxRecDepth 100000 in
theorem lk_lo {x : Option (Nat × Int32)} : loE C (lkC C x) := loE_k (fun q j hk => lkC_1 (by omega)) (fun q j hk => by rw [lkC_2]) (fun q j hk => by rw [lkC_2])
set_option maxRecDepth 100000 in
theorem KI_lk {x : Option (Nat × Int32)} (hl : tlK (msk (mBk Ks) u) (msk (mBk Ks) u')) (fv : frVm (mBk Ks) u u') (K : KI C u Ks W) : KI (lkC C x) u' Ks W := by
  obtain ⟨k1, k2, k3, k4, k5⟩ := K
  exact ⟨bkO_f k1 fv, KSc_g ⟨fun j => lkC_1 (by omega), fun k j _ => by rw [lkC_2], fun k j _ => by rw [lkC_2]⟩ hl k2, KRo_g (fun k j h => lkC_1 (by omega)) (fun j => by rw [lkC_2]) k3, KTx_g (fun j h => lkC_1 (by omega)) (fun j => by rw [lkC_2]) k4, KAs_g (fun k j _ => by rw [lkC_2]) fv k4.2.2.2.1 k5⟩
/-! looking at rules, on the whole tail -/
set_option maxRecDepth 100000 in
theorem w_145 {w : Int32} {p : Nat → Bool} (hA : wAll W) (hp : ∀ i, i < 24 → wU W i ≠ none → btI w i = p i) (K : KI C u Ks W) : Wd L xs (d + 5) y_145 (0, [(0, .ref 124), (1, .int w)], [], MH C u, 0) (fun v h q => some (.int (lkV (lkR (wS W) (wR W) p (rng 0 24)))) = v ∧ (∃ u', (stk (msk (mBk Ks) u) (msk (mBk Ks) u') ∧ frVm (mBk Ks) u u') ∧ MH (lkC C (lkR (wS W) (wR W) p (rng 0 24))) u' = h) ∧ 0 = q) nX := by
  have hM : ∀ j, mBk Ks j = true → j < u.length := bkO_h K.1
  have w0 := m_145 (L := L) (xs := xs) (d := d) (sl := 0) (w := w) (KS_I K.2.1) K.2.2.1.1 (okSt_w hA.1)
  rw [lkR_x (S := wS W) (rs := wR W) (p := btI w) (q := p) (rng 0 24) (fun i hi hz => hp i (by have := rng_x 24 0 i hi; omega) hz)] at w0
  refine Wd_q (W_mk (M := mBk Ks) (u := u) (Q := fun v C' t' q => some (.int (lkV (lkR (wS W) (wR W) p (rng 0 24)))) = v ∧ (stk (msk (mBk Ks) u) t' ∧ C' = lkC C (lkR (wS W) (wR W) p (rng 0 24))) ∧ 0 = q) (QX := fun _ _ _ _ => False) w0 hM (fun v h q hq => ?_) (fun a h q e => e.elim)) (fun v h q hq => ?_) (fun a h q e => ?_)
  · obtain ⟨e1, ⟨t', e2, e3⟩, e4⟩ := hq
    exact ⟨_, t', e3, e1, ⟨e2, rfl⟩, e4⟩
  · obtain ⟨C', u', rfl, ⟨e1, ⟨e2, rfl⟩, e4⟩, fv⟩ := hq
    exact ⟨e1, ⟨u', ⟨e2, fv⟩, rfl⟩, e4⟩
  · obtain ⟨_, _, _, e, _⟩ := e
    exact e
set_option maxRecDepth 100000 in
theorem xCom_out (h : xIn (wX W) = false) : xCom W = xNo W := by unfold xCom; rw [h]; rfl
set_option maxRecDepth 100000 in
theorem xCom_n (h : xIn (wX W) = true) (e : lkR (wS W) (wR W) (fun _ => true) (rng 0 24) = none) : xCom W = xOk (wT W, wG W, wR W, enD (wX W)) := by unfold xCom; rw [h, e]; rfl
set_option maxRecDepth 100000 in
theorem xCom_s {x : Nat × Int32} (h : xIn (wX W) = true) (e : lkR (wS W) (wR W) (fun _ => true) (rng 0 24) = some x) : xCom W = (2, vv (nI x.1) x.2 0 0 0, (wT W, wG W, x0 (wX W), enD (wX W))) := by unfold xCom; rw [h, e]; rfl
set_option maxRecDepth 100000 in
theorem ex_13 (hA : wAll W) (K : KI C u Ks W) (hv : C.2.2 20 3 = some 13) (h10 : C.1 20 10 = -1) (h24 : C.1 24 7 = 0 ∧ C.1 24 8 = 0) : Wd L xs (d + 64) y_100 (0, [(0, .ref 100)], [], MH C u, 0) (PXk C u (xCom W)) nX := by
  cases hx : xIn (wX W) with
  | false =>
    rw [xCom_out hx]
    exact kNo K h10 h24 (m_101_13 (d := d + 62) (sl := 0) (u := false) hv (by rw [← hx]; exact K.2.2.2.1.1))
  | true =>
    have wp := m_101_13 (L := L) (xs := xs) (d := d + 62) (sl := 0) (t := u) (u := true) hv (by rw [← hx]; exact K.2.2.2.1.1)
    refine p_100 (d := d + 63) wp (c_100_13 (d := d + 63) hv (w_145 (d := d + 58) (p := fun _ => true) hA (fun i hi _ => bbI_m1 i (by omega)) K) (fun v h q hq => ?_))
    obtain ⟨rfl, ⟨u', ⟨s1, fv⟩, rfl⟩, rfl⟩ := hq
    have l1 : u'.length = u.length := by
      have := s1.1
      rwa [msk_l, msk_l] at this
    cases hl : lkR (wS W) (wR W) (fun _ => true) (rng 0 24) with
    | none =>
      rw [xCom_n hx hl]
      refine ⟨0, lkC C none, u', _, rfl, rfl, m_152_0 (d := d + 62) (sl := 0), fun v2 h2 q2 hq2 => ?_⟩
      obtain ⟨rfl, rfl, rfl⟩ := hq2
      exact ⟨nI 0, rfl, kOk (en_lo loE_r) (KI_en (fun _ _ _ _ => rfl) (fun _ _ _ => rfl) rfl (tlK_k s1) fv K.2.2.1 K) ⟨(en_1 (by omega)).trans h24.1, (en_1 (by omega)).trans h24.2⟩ (by omega) (by omega)⟩
    | some x =>
      rw [xCom_s hx hl]
      obtain ⟨kb, b1, b2⟩ := K.2.2.2.2.2.1 hx
      have hk : kb ∈ Ks := KAs_k K.2.2.2.2.1 (s := 0) (by omega) b1
      have w2 := m_152_e (L := L) (xs := xs) (d := d + 59) (sl := 0) (C := lkC C (some x)) (t := u') (e := 2) (by omega) (by omega) (by rw [lkC_2]; exact b1) (RWt_M hk fv b2)
      refine ⟨2, lkC C (some x), u', _, rfl, rfl, w2, fun v2 h2 q2 hq2 => ?_⟩
      obtain ⟨rfl, ⟨C2, g1, rfl⟩, rfl⟩ := hq2
      obtain ⟨r1, r2, r3⟩ := g1.1
      have e24 : ∀ j, (enC C2).1 24 j = (lkC C (some x)).1 24 j := fun j => (en_1 (by omega)).trans (r1 24 j (by omega))
      refine ⟨nI 2, rfl, rfl, ⟨enC C2, u', Ks, ⟨KI_en (fun k j h1 h2 => (r1 k j (by omega)).trans (lkC_1 (by omega))) (fun k j h => (r2 k j (by omega)).trans (by rw [lkC_2])) (r3.trans (by rw [lkC_2])) (tlK_k s1) fv (bkP_K g1) K, ⟨fun z => (by cases z), fun _ => ⟨(e24 9).trans lkC_s.1, (e24 10).trans lkC_s.2⟩, fun z => (by cases z), (e24 7).trans ((lkC_1 (by omega)).trans h24.1), (e24 8).trans ((lkC_1 (by omega)).trans h24.2)⟩, by omega, en_lo (loE_t lk_lo (bk_lo g1.1))⟩, rfl⟩, by omega⟩
set_option maxRecDepth 100000 in
theorem xBck_out {a : Int32} (h : xIn (wX W) = false) : xBck W a = xNo W := by unfold xBck; rw [h]; rfl
set_option maxRecDepth 100000 in
theorem xBck_n (h : xIn (wX W) = true) : xBck W (-1) = xOk (wT W, wG W, x0 (wX W), enD (wX W)) := by unfold xBck; rw [h]; rfl
set_option maxRecDepth 100000 in
theorem xBck_m {s : Nat} (h : xIn (wX W) = true) (hs : s < 6) : xBck W (nI s) = xOk (wT W, wG W, xMr (wX W) s, bkX (wX W) s) := by
  unfold xBck
  rw [h]
  show (if nI s = -1 then _ else _) = _
  rw [if_neg (fun e => by
    have := congrArg Int32.toInt e
    rw [nK_int (by omega)] at this
    have e1 : (-1 : Int32).toInt = -1 := rfl
    omega), nK_nat (by omega)]
set_option maxRecDepth 100000 in
theorem ex_8 {a : Int32} (hA : wAll W) (ha : a = -1 ∨ ∃ s, a = nI s ∧ s < (xMk (wX W)).1 ∧ a.toNatClampNeg = s) (hQ : C.1 20 5 = a) (K : KI C u Ks W) (hv : C.2.2 20 3 = some 8) (h10 : C.1 20 10 = -1) (h24 : C.1 24 7 = 0 ∧ C.1 24 8 = 0) : Wd L xs (d + 64) y_100 (0, [(0, .ref 100)], [], MH C u, 0) (PXk C u (xBck W a)) nX := by
  have hM : ∀ j, mBk Ks j = true → j < u.length := bkO_h K.1
  have fv : frVm (mBk Ks) u u := fun j z => ⟨hM j z, rfl⟩
  cases hx : xIn (wX W) with
  | false =>
    rw [xBck_out hx]
    exact kNo K h10 h24 (m_101_8 (d := d + 62) (sl := 0) (u := false) hv (by rw [← hx]; exact K.2.2.2.1.1))
  | true =>
    have wp := m_101_8 (L := L) (xs := xs) (d := d + 62) (sl := 0) (t := u) (u := true) hv (by rw [← hx]; exact K.2.2.2.1.1)
    rcases ha with rfl | ⟨s, rfl, hs, _⟩
    · rw [xBck_n hx]
      obtain ⟨kb, b1, b2⟩ := K.2.2.2.2.2.1 hx
      refine p_100 (d := d + 63) wp (c_100_8n (d := d + 63) hv hQ (m_154 (d := d + 60) (sl := 0) b1 b2) (fun v h q hq => ?_))
      obtain ⟨rfl, ⟨C2, g1, rfl⟩, rfl⟩ := hq
      obtain ⟨r1, r2, r3⟩ := g1.1
      exact ⟨rfl, kOk (en_lo (bk_lo g1.1)) (KI_en (fun k j h1 h2 => r1 k j (by omega)) (fun k j h => r2 k j (by omega)) r3 (tlK_e tlE_r) fv (bkP_K g1) K) ⟨(en_1 (by omega)).trans ((r1 24 7 (by omega)).trans h24.1), (en_1 (by omega)).trans ((r1 24 8 (by omega)).trans h24.2)⟩ (by omega) (by omega)⟩
    · have h6 := hA.1.2.2.2.1.2.2
      rw [xBck_m hx (by omega)]
      obtain ⟨kb, b1, b2⟩ := K.2.2.2.2.2.2 s hs
      refine p_100 (d := d + 63) wp (c_100_8m (d := d + 63) hv hQ (by omega) (m_155 (d := d + 61) (sl := 0) K.2.2.2.1.2.2.1 h6 hs b1 b2) (fun v h q hq => ?_))
      obtain ⟨rfl, ⟨C2, g1, rfl⟩, rfl⟩ := hq
      obtain ⟨r1, r2, r3⟩ := g1.1
      obtain ⟨k1, k2, k3, k4, k5⟩ := K
      have e : ∀ k j, ¬ (k = 6 ∧ j = 12) → ¬ (15 ≤ k ∧ k ≤ 17) → (sI C2 6 12 (nI (s + 1))).1 k j = C.1 k j := fun k j h1 h2 => by rw [sI_1, if_neg h1]; exact r1 k j (by omega)
      have ka := KAs_g (C' := sI C2 6 12 (nI (s + 1))) (fun k j _ => (by show C2.2.2 k j = _; rw [r3])) fv k4.2.2.2.1 k5
      refine ⟨rfl, kOk (C' := sI C2 6 12 (nI (s + 1))) (Ks := Ks) (loE_t (bk_lo g1.1) (loE_I (by omega))) ⟨k1, KSc_g (W := W) ⟨fun j => e 8 j (by omega) (by omega), fun k j h => r2 k j (by omega), fun k j _ => (by show C2.2.2 k j = _; rw [r3])⟩ (tlK_e tlE_r) k2, KRo_g (C := C2) (C' := sI C2 6 12 (nI (s + 1))) (fun k j h => by rw [sI_1, if_neg (by omega)]) (fun _ => rfl) (bkP_K g1), ⟨(e 6 7 (by omega) (by omega)).trans k4.1, fun i hi => (by rw [e 6 8 (by omega) (by omega)]; exact k4.2.1 i hi), (by rw [sI_1, if_pos ⟨rfl, rfl⟩]; rfl), (by show s + 1 ≤ 6; omega), fun j hj => ?_⟩, ka.1, ka.2.1, fun j hj => ka.2.2 j (by have hj : j < s + 1 := hj; omega)⟩ ⟨(e 24 7 (by omega) (by omega)).trans h24.1, (e 24 8 (by omega) (by omega)).trans h24.2⟩ (by omega) (by omega)⟩
      have hj : j < s + 1 := hj
      exact (r2 19 j (by omega)).trans (k4.2.2.2.2 j (by omega))
end KCR
