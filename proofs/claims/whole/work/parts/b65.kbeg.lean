
/-! ONE SIDE AND THE WORLD: transactions begin, end, go back -/
section KTB
variable {L : Nat} {xs : Nat → Int32} {B : Nat → Nat} {n m d sl : Nat} {C C' C1 : co_T} {t t' u u' t1 : ab_H} {Ks : List Nat} {W : wo_T} {M : Nat → Bool} {k i : Nat} {ru : Nat → Option ru_T} {wd : Nat → Nat} {rs : rs_T} {S : st_T}
set_option maxRecDepth 100000 in
theorem RWx_U {k' : Nat} (hk : k + 5 ≤ k' ∨ k' + 5 ≤ k) (h : frU k' t t') (R : RWx t k) : RWx t' k := by
  obtain ⟨ce, id, sz, la, R⟩ := R
  exact ⟨ce, id, sz, la, RWo_g (fun j a b => h.2 j (by omega)) R⟩
set_option maxRecDepth 100000 in
theorem RWx_E (h : tlE t t') (R : RWx t k) : RWx t' k := by
  obtain ⟨ce, id, sz, la, r1, r2, r3, r4, r5⟩ := R
  exact ⟨ce, id, sz, la, h _ _ r1, h _ _ r2, h _ _ r3, h _ _ r4, h _ _ r5⟩
set_option maxRecDepth 100000 in
theorem RWt_E (h : tlE t t') (R : RWt t k wd rs) : RWt t' k wd rs := by
  obtain ⟨ce, id, sz, la, ⟨r1, r2, r3, r4, r5⟩, r6⟩ := R
  exact ⟨ce, id, sz, la, ⟨h _ _ r1, h _ _ r2, h _ _ r3, h _ _ r4, h _ _ r5⟩, r6⟩
set_option maxRecDepth 100000 in
theorem RWt_x (R : RWt t k wd rs) : RWx t k := by
  obtain ⟨ce, id, sz, la, r, _⟩ := R
  exact ⟨ce, id, sz, la, r⟩
set_option maxRecDepth 100000 in
theorem asP_new {s0 : Nat} (h0 : asK C' s0 = some (241 + u.length)) (h1 : ∀ s, s < 7 → s ≠ s0 → asK C' s = asK C s) (hb : bkO Ks u.length) (he : tlE u t') (hR : RWx t' u.length) (A : asP C u Ks) : asP C' t' (u.length :: Ks) := by
  have hk : ∀ k, k ∈ Ks → k ≠ u.length := fun k z e => by
    have := hb.1 k z
    omega
  refine ⟨fun s hs => ?_, fun s s' k hs hs' e1 e2 => ?_⟩
  · by_cases e : s = s0
    · rw [e, h0]
      exact Or.inr ⟨u.length, rfl, List.mem_cons_self .., hR⟩
    · rw [h1 s hs e]
      rcases A.1 s hs with z | ⟨k, z1, z2, z3⟩
      · exact Or.inl z
      · exact Or.inr ⟨k, z1, List.mem_cons_of_mem _ z2, RWx_E he z3⟩
  · by_cases a1 : s = s0
    · by_cases a2 : s' = s0
      · rw [a1, a2]
      · exfalso
        rw [a1, h0] at e1
        rw [h1 s' hs' a2] at e2
        have : k ∈ Ks := KAs_k A hs' e2
        injection e1 with e1
        exact hk k this (by omega)
    · by_cases a2 : s' = s0
      · exfalso
        rw [a2, h0] at e2
        rw [h1 s hs a1] at e1
        have : k ∈ Ks := KAs_k A hs e1
        injection e2 with e2
        exact hk k this (by omega)
      · rw [h1 s hs a1] at e1
        rw [h1 s' hs' a2] at e2
        exact A.2 s s' k hs hs' e1 e2
/-! the same rows, in slots in another order -/
set_option maxRecDepth 100000 in
theorem asP_old {s0 : Nat} {p : Nat → Nat} (hp : ∀ s, s < 7 → p s < 7 ∧ asK C' s = asK C (p s)) (hi : ∀ s s', s < 7 → s' < 7 → p s = p s' → s = s') (hs0 : s0 < 7) (h0 : asK C s0 = some (241 + k)) (hb : bkO Ks u.length) (he : frU k u t') (hR : RWx t' k) (A : asP C u Ks) : asP C' t' Ks := by
  refine ⟨fun s hs => ?_, fun s s' j hs hs' e1 e2 => ?_⟩
  · rw [(hp s hs).2]
    rcases A.1 _ (hp s hs).1 with z | ⟨k', z1, z2, z3⟩
    · exact Or.inl z
    · refine Or.inr ⟨k', z1, z2, ?_⟩
      by_cases e : k' = k
      · rw [e]; exact hR
      · exact RWx_U (hb.2 k' k z2 (KAs_k A hs0 h0) e) he z3
  · rw [(hp s hs).2] at e1
    rw [(hp s' hs').2] at e2
    exact hi s s' hs hs' (A.2 _ _ j (hp s hs).1 (hp s' hs').1 e1 e2)
set_option maxRecDepth 100000 in
theorem wtI_b : ∀ (f p : Nat) (a : Int32) (q : Nat), p + f ≤ 24 → q < 24 → btI (wtI ru f p a) q = (btI a q || (decide (p ≤ q ∧ q < p + f) && ltU (ru q)))
  | 0, p, a, q, _, _ => by
    rw [decide_eq_false (by omega), Bool.false_and, Bool.or_false]
    rfl
  | f + 1, p, a, q, hp, hq => by
    show btI (wtI ru f (p + 1) (a ||| (match ru p with
      | none => 0
      | some u => bif rLt u then wt1 p else 0))) q = _
    rw [wtI_b f (p + 1) _ q (by omega) hq, bbI_or]
    have hX : btI (match ru p with
      | none => 0
      | some u => bif rLt u then wt1 p else 0) q = (decide (q = p) && ltU (ru q)) := by
      cases e : ru p with
      | none =>
        show btI 0 q = _
        rw [bbI_0]
        by_cases z : q = p
        · rw [z, e]
          exact (Bool.and_false _).symm
        · rw [decide_eq_false z, Bool.false_and]
      | some v =>
        cases hl : rLt v with
        | false =>
          show btI (bif rLt v then wt1 p else 0) q = _
          rw [hl]
          show btI 0 q = _
          rw [bbI_0]
          by_cases z : q = p
          · rw [z, e]
            show false = (decide (p = p) && rLt v)
            rw [hl, Bool.and_false]
          · rw [decide_eq_false z, Bool.false_and]
        | true =>
          show btI (bif rLt v then wt1 p else 0) q = _
          rw [hl]
          show btI (wt1 p) q = _
          rw [bt_1' p q (by omega) hq]
          by_cases z : q = p
          · rw [z, e]
            show _ = (decide (p = p) && rLt v)
            rw [hl, Bool.and_true]
          · rw [decide_eq_false z, Bool.false_and]
    rw [hX]
    by_cases z : q = p
    · rw [decide_eq_true z, decide_eq_false (show ¬ (p + 1 ≤ q ∧ q < p + 1 + f) by omega), decide_eq_true (show p ≤ q ∧ q < p + (f + 1) by omega)]
      cases btI a q <;> cases ltU (ru q) <;> rfl
    · rw [decide_eq_false z]
      have e2 : decide (p + 1 ≤ q ∧ q < p + 1 + f) = decide (p ≤ q ∧ q < p + (f + 1)) := by
        by_cases y : p + 1 ≤ q ∧ q < p + 1 + f
        · rw [decide_eq_true y, decide_eq_true (by omega)]
        · rw [decide_eq_false y, decide_eq_false (by omega)]
      rw [e2]
      cases btI a q <;> cases ltU (ru q) <;> cases decide (p ≤ q ∧ q < p + (f + 1)) <;> rfl
set_option maxRecDepth 100000 in
theorem wtI_q (hq : i < 24) : btI (wtI ru 24 0 0) i = ltU (ru i) := by
  rw [wtI_b 24 0 0 i (by omega) hq, bbI_0, decide_eq_true (by omega), Bool.false_or, Bool.true_and]
set_option maxRecDepth 100000 in
theorem bgn_1 {w : Int32} {j : Nat} {q : Nat} (h : ¬ (q = 6 ∧ (j = 7 ∨ j = 8))) : (bgnC C w k).1 q j = C.1 q j := by
  show (sI (sI C 6 7 1) 6 8 w).1 q j = _
  rw [sI_1, if_neg (by omega), sI_1, if_neg (by omega)]
set_option maxRecDepth 100000 in
theorem bgn_3 {w : Int32} {j : Nat} {q : Nat} (h : ¬ (q = 6 ∧ j = 9)) : (bgnC C w k).2.2 q j = C.2.2 q j := by
  show (sQ (sI (sI C 6 7 1) 6 8 w) 6 9 (some (241 + k))).2.2 q j = _
  rw [sQ_3, if_neg h]
  rfl
set_option maxRecDepth 100000 in
theorem bgn_as {w : Int32} {s : Nat} (hs : s ≠ 0) : asK (bgnC C w k) s = asK C s := by
  unfold asK
  rw [if_neg hs, if_neg hs, bgn_3 (by omega)]
set_option maxRecDepth 100000 in
theorem bgn_0 {w : Int32} : asK (bgnC C w k) 0 = some (241 + k) := by
  unfold asK
  rw [if_pos rfl]
  show (sQ (sI (sI C 6 7 1) 6 8 w) 6 9 (some (241 + k))).2.2 6 9 = _
  rw [sQ_3, if_pos ⟨rfl, rfl⟩]
set_option maxRecDepth 100000 in
theorem bgn_lo {w : Int32} : loE C (bgnC C w k) := loE_k (fun q j hk => bgn_1 (by omega)) (fun _ _ _ => rfl) (fun q j hk => bgn_3 (by omega))
set_option maxRecDepth 100000 in
theorem xBeg_in (h : xIn (wX W) = true) : xBeg W = xNo W := by unfold xBeg; rw [h]; rfl
set_option maxRecDepth 100000 in
theorem xBeg_out (h : xIn (wX W) = false) : xBeg W = xOk (wT W, wG W, wR W, bgX W) := by unfold xBeg; rw [h]; rfl
set_option maxRecDepth 100000 in
theorem KI_bg {Ks' : List Nat} (hA : wOk W) (hx : xIn (wX W) = false) (hb : bkO Ks' t'.length) (hm : tlE (msk (mBk Ks) u) (msk (mBk Ks') t')) (hp : asP (bgnC C (wtI (wU W) 24 0 0) k) t' Ks') (hR : RWt t' k (wW W) (wR W)) (K : KI C u Ks W) : KI (bgnC C (wtI (wU W) 24 0 0) k) t' Ks' (wT W, wG W, wR W, bgX W) := by
  obtain ⟨k1, k2, k3, k4, k5⟩ := K
  refine ⟨hb, KSc_g (W := W) ⟨fun j => bgn_1 (by omega), fun _ _ _ => rfl, fun q j h => bgn_3 (by omega)⟩ (tlK_e hm) k2, KRo_g (fun q j h => bgn_1 (by omega)) (fun _ => rfl) k3, ⟨?_, fun i hi => ?_, ?_, Nat.zero_le 6, fun j hj => absurd hj (Nat.not_lt_zero j)⟩, hp, fun _ => ⟨k, ?_, hR⟩, fun j hj => absurd hj (Nat.not_lt_zero j)⟩
  · show (sI (sI C 6 7 1) 6 8 (wtI (wU W) 24 0 0)).1 6 7 = ck true
    rw [sI_1, if_neg (by omega), sI_1, if_pos ⟨rfl, rfl⟩]
    rfl
  · have e : (bgnC C (wtI (wU W) 24 0 0) k).1 6 8 = wtI (wU W) 24 0 0 := by
      show (sI (sI C 6 7 1) 6 8 (wtI (wU W) 24 0 0)).1 6 8 = _
      rw [sI_1, if_pos ⟨rfl, rfl⟩]
    rw [e, wtI_q hi]
    rfl
  · show (bgnC C (wtI (wU W) 24 0 0) k).1 6 12 = nI 0
    rw [bgn_1 (by omega), k4.2.2.1, (hA.2.2.2.1.2.1 hx).2]
  · have := bgn_0 (C := C) (k := k) (w := wtI (wU W) 24 0 0)
    unfold asK at this
    rwa [if_pos rfl] at this
set_option maxRecDepth 100000 in
theorem ex_10 (hA : wAll W) (K : KI C u Ks W) (hv : C.2.2 20 3 = some 10) (h10 : C.1 20 10 = -1) (h24 : C.1 24 7 = 0 ∧ C.1 24 8 = 0) : Wd L xs (d + 64) y_100 (0, [(0, .ref 100)], [], MH C u, 0) (PXk C u (xBeg W)) nX := by
  have hM : ∀ j, mBk Ks j = true → j < u.length := bkO_h K.1
  cases hx : xIn (wX W) with
  | true =>
    rw [xBeg_in hx]
    exact kNo K h10 h24 (m_101_10 (d := d + 62) (sl := 0) (u := true) hv (by rw [← hx]; exact K.2.2.2.1.1))
  | false =>
    rw [xBeg_out hx]
    have wp := m_101_10 (L := L) (xs := xs) (d := d + 62) (sl := 0) (t := u) (u := false) hv (by rw [← hx]; exact K.2.2.2.1.1)
    have h24' : ∀ k, (bgnC C (wtI (wU W) 24 0 0) k).1 24 7 = 0 ∧ (bgnC C (wtI (wU W) 24 0 0) k).1 24 8 = 0 := fun k => ⟨(bgn_1 (by omega)).trans h24.1, (bgn_1 (by omega)).trans h24.2⟩
    rcases K.2.2.2.2.1.1 0 (by omega) with e | ⟨k, e, e1, e2⟩
    · have e : C.2.2 6 9 = none := e
      have w := m_149n (L := L) (xs := xs) (d := d + 60) (sl := 0) hM K.2.1.1.2.2 e K.2.2.1.1 K.2.2.1.2
      refine p_100 (d := d + 63) wp (c_100_10 (d := d + 63) hv w (fun v h q hq => ?_))
      obtain ⟨rfl, ⟨t', ⟨l1, l2, l3⟩, rfl⟩, q1⟩ := hq
      obtain ⟨qq, rfl⟩ := tlE_x l2
      have lq : qq.length = 5 := by rw [List.length_append] at l1; omega
      refine ⟨rfl, kOk bgn_lo (KI_bg hA.1 hx (Ks' := u.length :: Ks) (by rw [l1]; exact bkO_c K.1) (by rw [msk_c K.1 lq]; exact tlE_a) (asP_new (s0 := 0) bgn_0 (fun s _ hs => bgn_as hs) K.1 l2 (RWt_x l3) K.2.2.2.2.1) l3 K) (h24' _) (by omega) (by omega)⟩
    · have e : C.2.2 6 9 = some (241 + k) := e
      obtain ⟨ce, id, sz, la, R⟩ := e2
      have w := m_149y (L := L) (xs := xs) (d := d + 60) (sl := 0) hM K.2.1.1.2.2 e R K.2.2.1.1 K.2.2.1.2
      refine p_100 (d := d + 63) wp (c_100_10 (d := d + 63) hv w (fun v h q hq => ?_))
      obtain ⟨rfl, ⟨t', ⟨l2, l3⟩, rfl⟩, rfl⟩ := hq
      refine ⟨rfl, kOk bgn_lo (KI_bg hA.1 hx (Ks' := Ks) (by rw [l2.1]; exact K.1) (by rw [msk_U e1 l2]; exact tlE_r) (asP_old (p := fun s => s) (s0 := 0) (fun s hs => ⟨hs, ?_⟩) (fun s s' _ _ z => z) (by omega) e K.1 l2 (RWt_x l3) K.2.2.2.2.1) l3 K) (h24' _) (by rw [l2.1]; omega) (by omega)⟩
      by_cases z : s = 0
      · rw [z, bgn_0]; exact e.symm
      · exact bgn_as z
end KTB
