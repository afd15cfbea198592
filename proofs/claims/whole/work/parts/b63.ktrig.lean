
/-! ONE SIDE AND THE WORLD: triggers come and go, tables go -/
section KTG
variable {L : Nat} {xs : Nat → Int32} {B : Nat → Nat} {n m d sl : Nat} {C C' C1 : co_T} {t t' u t1 : ab_H} {Ks : List Nat} {W : wo_T} {M : Nat → Bool} {k : Nat}
set_option maxRecDepth 100000 in
theorem msk_g {c : ab_C} (h : (msk M u)[k]? = some c) (hc : c ≠ dC) : u[k]? = some c := by
  cases hM : M k with
  | false => rwa [msk_n hM] at h
  | true =>
    have hl := get_lt h
    rw [msk_l] at hl
    rw [msk_y hM hl] at h
    injection h with h
    exact absurd h.symm hc
set_option maxRecDepth 100000 in
theorem msk_u {u' : ab_H} (e : msk M u' = msk M u) (f : frVm M u u') : u' = u := by
  have hl : u'.length = u.length := by
    have := congrArg List.length e
    rwa [msk_l, msk_l] at this
  apply List.ext_getElem?
  intro j
  cases hM : M j with
  | true => exact (f j hM).2
  | false =>
    have := congrArg (fun l => l[j]?) e
    simp only [msk_n hM] at this
    exact this
set_option maxRecDepth 100000 in
theorem W_mE {pc : Nat} {y : mc_T} {al : List (Nat × Value)} {st : List Value} {Q : Option Value → co_T → Nat → Prop} (w : Wd L xs d y (pc, al, st, MH C (msk M t), sl) (fun v h q => ∃ C', Q v C' q ∧ MH C' (msk M t) = h) nX) (hM : ∀ j, M j = true → j < t.length) : Wd L xs d y (pc, al, st, MH C t, sl) (fun v h q => ∃ C', Q v C' q ∧ MH C' t = h) nX := by
  refine Wd_q (W_mk (Q := fun v C' t' q => Q v C' q ∧ t' = msk M t) (QX := fun _ _ _ _ => False) w hM (fun v h q hq => ?_) (fun a h q e => e.elim)) (fun v h q hq => ?_) (fun a h q e => ?_)
  · obtain ⟨C', h1, h2⟩ := hq
    exact ⟨C', _, h2, h1, rfl⟩
  · obtain ⟨C', u', rfl, ⟨h1, h2⟩, fv⟩ := hq
    exact ⟨C', h1, by rw [msk_u h2 fv]⟩
  · obtain ⟨_, _, _, e, _⟩ := e
    exact e
set_option maxRecDepth 100000 in
theorem vE0 {e : Nat} (h : e = 0 ∨ e = 7) (h24 : C.1 24 7 = 0 ∧ C.1 24 8 = 0) : vEq e (vK C) (vv 0 0 0 0 0) := ⟨fun z => by omega, fun z => by omega, fun z => by omega, h24.1, h24.2⟩
set_option maxRecDepth 100000 in
theorem kNo (K : KI C u Ks W) (h10 : C.1 20 10 = -1) (h24 : C.1 24 7 = 0 ∧ C.1 24 8 = 0) (w : Wd L xs (d + 63) y_101 (0, [(0, .ref 100)], [], MH C u, 0) (Rt (some (.int 0)) (MH C u) 0) nX) : Wd L xs (d + 64) y_100 (0, [(0, .ref 100)], [], MH C u, 0) (PXk C u (xNo W)) nX := by
  refine n_100 (d := d + 63) w (m_97n (d := d + 61) (sl := 0) h10) (fun v h q hq => ?_)
  obtain ⟨rfl, rfl, rfl⟩ := hq
  exact ⟨rfl, rfl, ⟨C, u, Ks, ⟨K, vE0 (Or.inr rfl) h24, by omega, loE_r⟩, rfl⟩, by omega⟩
/-! carried out well, nothing told -/
set_option maxRecDepth 100000 in
theorem kOk {W' : wo_T} {q : Nat} (hlo : loE C C') (K : KI C' t' Ks W') (h24 : C'.1 24 7 = 0 ∧ C'.1 24 8 = 0) (hl : t'.length ≤ u.length + 6) (hq : q ≤ 1710) : PXk C u (xOk W') (some (.int (nI 0))) (MH C' t') q := ⟨rfl, ⟨C', t', Ks, ⟨K, vE0 (Or.inl rfl) h24, hl, hlo⟩, rfl⟩, hq⟩
set_option maxRecDepth 100000 in
theorem xTrg_in (h : xIn (wX W) = true) {G : tr_T} : xTrg W G = xNo W := by unfold xTrg; rw [h]; rfl
set_option maxRecDepth 100000 in
theorem xTrg_out (h : xIn (wX W) = false) {G : tr_T} : xTrg W G = xOk (wT W, upG (wG W) (trN (wG W)).toNatClampNeg (some G), W.2.2) := by unfold xTrg; rw [h]; rfl
set_option maxRecDepth 100000 in
theorem KI_G {s : Nat} {x : Option Nat} {G : Option tr_T} (hs : s < 8) (hG : opK (TRn (msk (mBk Ks) u)) x G) (K : KI C u Ks W) : KI (sQ C 12 s x) u Ks (wT W, upG (wG W) s G, W.2.2) := by
  obtain ⟨k1, ⟨k2, k2b, k2c⟩, k3, k4, k5⟩ := K
  have e : ∀ k j, k ≠ 12 → (sQ C 12 s x).2.2 k j = C.2.2 k j := fun k j h => by rw [sQ_3, if_neg (by omega)]
  have fv : frVm (mBk Ks) u u := fun j z => ⟨bkO_h k1 j z, rfl⟩
  refine ⟨k1, ⟨⟨k2.1, k2.2.1, fun i hi => ?_⟩, fun i hi => ?_, fun j hj => ?_⟩, k3, k4, KAs_g (fun k j h => e k j (by omega)) fv k4.2.2.2.1 k5⟩
  · rw [e 11 i (by omega)]
    exact k2.2.2 i hi
  · show opK (TRn (msk (mBk Ks) u)) ((sQ C 12 s x).2.2 12 i) (if i = s then G else wG W i)
    rw [sQ_3]
    by_cases h : i = s
    · rw [if_pos ⟨rfl, h⟩, if_pos h]
      exact hG
    · rw [if_neg (fun z => h z.2), if_neg h]
      exact k2b i hi
  · rw [e 30 j (by omega), e 45 j (by omega), e 60 j (by omega)]
    exact k2c j hj
set_option maxRecDepth 100000 in
theorem ex_39 {G : tr_T} (hs : trN (wG W) ≠ -1) (hQ : QTr (trN (wG W)) G C (msk (mBk Ks) u)) (K : KI C u Ks W) (hv : C.2.2 20 3 = some 39) (h10 : C.1 20 10 = -1) (h24 : C.1 24 7 = 0 ∧ C.1 24 8 = 0) : Wd L xs (d + 64) y_100 (0, [(0, .ref 100)], [], MH C u, 0) (PXk C u (xTrg W G)) nX := by
  cases hx : xIn (wX W) with
  | true =>
    rw [xTrg_in hx]
    have w := m_101_39 (L := L) (xs := xs) (d := d + 62) (sl := 0) (t := u) (u := true) hv (by rw [← hx]; exact K.2.2.2.1.1)
    exact kNo K h10 h24 w
  | false =>
    rw [xTrg_out hx]
    have w := m_101_39 (L := L) (xs := xs) (d := d + 62) (sl := 0) (t := u) (u := false) hv (by rw [← hx]; exact K.2.2.2.1.1)
    obtain ⟨s, e1, e2, e3, e4⟩ := trN_w hs
    obtain ⟨⟨k, h9, hT⟩, h5⟩ := hQ
    obtain ⟨ka, vw, g1, g2⟩ := hT
    have hu := msk_g g1 (by intro z; cases z)
    refine p_100 (d := d + 63) w (c_100_39 (d := d + 63) hv (h5.trans e1) h9 (m_103 (d := d + 63) (sl := 0) e2 hu) (fun v h q hq => ?_))
    obtain ⟨rfl, rfl, rfl⟩ := hq
    rw [e4]
    exact ⟨rfl, kOk (loE_Q (by omega)) (KI_G e2 ⟨k, rfl, ka, vw, g1, g2⟩ K) h24 (by omega) (by omega)⟩
/-! whose rules, whose triggers they are -/
def tbU (ru : Nat → Option ru_T) (i : Nat) : Option Nat := (ru i).map rTb
def tbG (tr : Nat → Option tr_T) (i : Nat) : Option Nat := (tr i).map gTb
set_option maxRecDepth 100000 in
theorem SLt_K {mt : ab_H} (hA : wOk W) (K : KSc C mt W) : SLt C mt 11 0 24 (tbU (wU W)) := fun j _ hj => by
  have := K.1.2.2 j hj
  unfold tbU
  cases e : wU W j with
  | none =>
    rw [show (wT W).2.2 j = none from e] at this
    exact this
  | some v =>
    rw [show (wT W).2.2 j = some v from e] at this
    obtain ⟨k, e1, kc, kt, fc, ft, vc, ⟨g1, _⟩, _⟩ := this
    exact ⟨k, _, _, e1, g1, (hA.1.2 j v e).1.1.2.1⟩
set_option maxRecDepth 100000 in
theorem SLg_K {mt : ab_H} (hA : wOk W) (K : KSc C mt W) : SLg C mt 12 0 8 (tbG (wG W)) := fun j _ hj => by
  have := K.2.1 j hj
  unfold tbG
  cases e : wG W j with
  | none =>
    rw [e] at this
    exact this
  | some v =>
    rw [e] at this
    obtain ⟨k, e1, ka, vw, g1, _⟩ := this
    exact ⟨k, _, _, e1, g1, (hA.2.1 j v e).1.1⟩
set_option maxRecDepth 100000 in
theorem lo_dp {C2 : co_T} {b : Nat} {f g : Nat → Option Nat} (h1 : drS (dpC C b) C1 11 0 24 b f) (h2 : drS C1 C2 12 0 8 b g) : loE C C2 := loE_k (fun k j hk => by
  rw [h2.1, h1.1]
  unfold dpC
  rw [sI_1, if_neg (by omega), sI_1, if_neg (by omega), sI_1, if_neg (by omega)]
  rfl) (fun k j hk => by
  rw [h2.2.1, h1.2.1]
  show (sJ C 7 b 0).2.1 k j = _
  rw [sJ_2, if_neg (by omega)]) (fun k j hk => (h2.2.2.1 k j (by omega)).trans ((h1.2.2.1 k j (by omega)).trans rfl))
/-! a table is gone -/
set_option maxRecDepth 100000 in
theorem KI_dp {b : Nat} {C2 : co_T} (hb : b < 6) (hx : xIn (wX W) = false) (hA : wOk W) (h1 : drS (dpC C b) C1 11 0 24 b (tbU (wU W))) (h2 : drS C1 C2 12 0 8 b (tbG (wG W))) (K : KI C u Ks W) : KI C2 u Ks (drW W b) := by
  obtain ⟨k1, ⟨k2, k2b, k2c⟩, k3, k4, k5⟩ := K
  obtain ⟨a1, a2, a3, a4⟩ := h1
  obtain ⟨b1, b2, b3, b4⟩ := h2
  have fv : frVm (mBk Ks) u u := fun j z => ⟨bkO_h k1 j z, rfl⟩
  have eI : ∀ k j, C2.1 k j = (dpC C b).1 k j := fun k j => by rw [b1, a1]
  have eJ : ∀ k j, C2.2.1 k j = (dpC C b).2.1 k j := fun k j => by rw [b2, a2]
  have eI2 : ∀ k j, ¬ ((k = 8 ∨ k = 16 ∨ k = 17) ∧ j = b) → (dpC C b).1 k j = C.1 k j := fun k j h => by
    unfold dpC
    rw [sI_1, if_neg (by omega), sI_1, if_neg (by omega), sI_1, if_neg (by omega)]
    rfl
  have eJ2 : ∀ k j, ¬ (k = 7 ∧ j = b) → (dpC C b).2.1 k j = C.2.1 k j := fun k j h => by
    show (sJ C 7 b 0).2.1 k j = _
    rw [sJ_2, if_neg h]
  have e8 : (dpC C b).1 8 b = 0 := by
    unfold dpC
    rw [sI_1, if_neg (by omega), sI_1, if_neg (by omega), sI_1, if_pos ⟨rfl, rfl⟩]
  have e16 : (dpC C b).1 16 b = 0 := by
    unfold dpC
    rw [sI_1, if_neg (by omega), sI_1, if_pos ⟨rfl, rfl⟩]
  have e17 : (dpC C b).1 17 b = 0 := by
    unfold dpC
    rw [sI_1, if_pos ⟨rfl, rfl⟩]
  have e7 : (dpC C b).2.1 7 b = 0 := by
    show (sJ C 7 b 0).2.1 7 b = 0
    rw [sJ_2, if_pos ⟨rfl, rfl⟩]
  have eQ : ∀ k j, k ≠ 11 → k ≠ 12 → C2.2.2 k j = C.2.2 k j := fun k j h1 h2 => (b3 k j h2).trans ((a3 k j h1).trans rfl)
  have tn1 : ∀ q, (drW W b).1.1.1 q = if q = b then 0 else (wT W).1.1 q := fun q => rfl
  have wd1 : ∀ q, (drW W b).1.1.2.1 q = if q = b then 0 else (wT W).1.2.1 q := fun q => rfl
  refine ⟨k1, ⟨⟨⟨fun q hq => ?_, fun q hq => ⟨?_, ?_, fun c hc => ?_⟩⟩, fun q c hq hc => ?_, fun i hi => ?_⟩, fun i hi => ?_, fun j hj => ?_⟩, ⟨fun q hq => ⟨?_, ?_, ?_, fun k r hr => ?_⟩, fun q hq => ?_⟩, KTx_g (fun j h => (eI 6 j).trans (eI2 6 j (by omega))) (fun j => (eJ 19 j).trans (eJ2 19 j (by omega))) k4, ?_⟩
  · show C2.2.1 7 q = (drW W b).1.1.1 q
    rw [eJ, tn1]
    by_cases h : q = b
    · rw [if_pos h, h]; exact e7
    · rw [if_neg h, eJ2 _ _ (by omega)]; exact k2.1.1 q hq
  · show C2.1 8 q = nI ((drW W b).1.1.2.1 q)
    rw [eI, wd1]
    by_cases h : q = b
    · rw [if_pos h, h]; exact e8
    · rw [if_neg h, eI2 _ _ (by omega)]; exact (k2.1.2 q hq).1
  · show (drW W b).1.1.2.1 q ≤ 6
    rw [wd1]
    split
    · omega
    · exact (k2.1.2 q hq).2.1
  · have hc : c < (drW W b).1.1.2.1 q := hc
    rw [wd1] at hc
    split at hc
    · omega
    · rw [eJ, eJ2 _ _ (by omega)]; exact (k2.1.2 q hq).2.2 c hc
  · have hc : c < (drW W b).1.1.2.1 q := hc
    rw [wd1] at hc
    split at hc
    · omega
    · rw [eJ, eJ2 _ _ (by omega)]; exact k2.2.1 q c hq hc
  · show opK (RUK (msk (mBk Ks) u)) (C2.2.2 11 i) (match (wT W).2.2 i with
      | none => none
      | some v => if rTb v = b then none else some v)
    rw [b3 11 i (by omega), a4 i hi]
    have := k2.2.2 i hi
    cases e : (wT W).2.2 i with
    | none =>
      rw [e] at this
      have this : C.2.2 11 i = none := this
      show (if 0 ≤ i ∧ tbU (wU W) i = some b then none else C.2.2 11 i) = none
      rw [this]
      split <;> rfl
    | some v =>
      rw [e] at this
      have et : tbU (wU W) i = some (rTb v) := by unfold tbU; rw [show wU W i = some v from e]; rfl
      rw [et]
      by_cases h : rTb v = b
      · rw [if_pos ⟨Nat.zero_le i, by rw [h]⟩]
        show opK (RUK (msk (mBk Ks) u)) none (if rTb v = b then none else some v)
        rw [if_pos h]
        rfl
      · rw [if_neg (fun z => h (by injection z.2))]
        show opK (RUK (msk (mBk Ks) u)) (C.2.2 11 i) (if rTb v = b then none else some v)
        rw [if_neg h]
        exact this
  · show opK (TRn (msk (mBk Ks) u)) (C2.2.2 12 i) (match wG W i with
      | none => none
      | some v => if gTb v = b then none else some v)
    rw [b4 i hi, a3 12 i (by omega)]
    have := k2b i hi
    cases e : wG W i with
    | none =>
      rw [e] at this
      have this : C.2.2 12 i = none := this
      show (if 0 ≤ i ∧ tbG (wG W) i = some b then none else C.2.2 12 i) = none
      rw [this]
      split <;> rfl
    | some v =>
      rw [e] at this
      have et : tbG (wG W) i = some (gTb v) := by unfold tbG; rw [e]; rfl
      rw [et]
      by_cases h : gTb v = b
      · rw [if_pos ⟨Nat.zero_le i, by rw [h]⟩]
        show opK (TRn (msk (mBk Ks) u)) none (if gTb v = b then none else some v)
        rw [if_pos h]
        rfl
      · rw [if_neg (fun z => h (by injection z.2))]
        show opK (TRn (msk (mBk Ks) u)) (C.2.2 12 i) (if gTb v = b then none else some v)
        rw [if_neg h]
        exact this
  · rw [eQ 30 j (by omega) (by omega), eQ 45 j (by omega) (by omega), eQ 60 j (by omega) (by omega)]
    exact k2c j hj
  · show (drW W b).1.1.2.1 q ≤ 6
    rw [wd1]
    split
    · omega
    · exact (k2.1.2 q hq).2.1
  · show C2.1 16 q = nI (rsU (wR W) b ([], 0) q).1.length
    unfold rsU
    rw [eI]
    by_cases h : q = b
    · rw [if_pos h, h]; exact e16
    · rw [if_neg h, eI2 _ _ (by omega)]; exact (k3.1 q hq).2.1
  · show (rsU (wR W) b ([], 0) q).1.length ≤ 40
    unfold rsU
    split
    · exact Nat.zero_le 40
    · exact (k3.1 q hq).2.2.1
  · have hr : (rsU (wR W) b ([], 0) q).1[k]? = some r := hr
    unfold rsU at hr
    split at hr
    · cases hr
    · rename_i h
      obtain ⟨z1, z2⟩ := (k3.1 q hq).2.2.2 k r hr
      refine ⟨?_, fun c hc => ?_⟩
      · rw [eI, eI2 _ _ (by omega)]; exact z1
      · have hc : c < (drW W b).1.1.2.1 q := hc
        rw [wd1, if_neg h] at hc
        rw [eJ, eJ2 _ _ (by omega)]; exact z2 c hc
  · show C2.1 17 q = (rsU (wR W) b ([], 0) q).2
    unfold rsU
    rw [eI]
    by_cases h : q = b
    · rw [if_pos h, h]; exact e17
    · rw [if_neg h, eI2 _ _ (by omega)]; exact k3.2 q hq
  · have hz := (hA.2.2.2.1.2.1 hx).2
    have ka := KAs_g (C' := C2) (wd := wW (drW W b)) (X := wX W) (fun k j h => eQ k j (by omega) (by omega)) fv k4.2.2.2.1 ⟨k5.1, fun z => (by rw [hx] at z; cases z), fun j hj => (by rw [hz] at hj; omega)⟩
    exact ka
end KTG
