
/-! ONE SIDE AND THE WORLD: a table is made -/
section KTA
variable {L : Nat} {xs : Nat → Int32} {B : Nat → Nat} {n m d sl b : Nat} {C C' C0 C1 C2 : co_T} {t t' u u' mt mt' : ab_H} {Ks Ks' : List Nat} {W : wo_T} {k i : Nat} {nm : Int64} {T' : tb_S}
set_option maxRecDepth 100000 in
theorem nwC_1 {k j : Nat} (h : k ≠ 20) (h2 : k ≠ 21) : (nwC C b nm).1 k j = C.1 k j := by
  unfold nwC
  rw [sI_1, if_neg (by omega), sI_1, if_neg (by omega), sI_1, if_neg (by omega)]
  rfl
set_option maxRecDepth 100000 in
theorem nwC_2 {k j : Nat} : (nwC C b nm).2.1 k j = if k = 7 ∧ j = b then nm else C.2.1 k j := by
  show (sJ C 7 b nm).2.1 k j = _
  rw [sJ_2]
/-! what stands behind the reading of a table, well or refused -/
def tbB (C : co_T) (mt : ab_H) (b : Nat) (nm : Int64) (C' : co_T) (mt' : ab_H) : Prop := ∃ C2, (frN C C2 ∧ nm ≠ 0) ∧ STB b (nwC C2 b nm) mt C' mt'
set_option maxRecDepth 100000 in
theorem tbB_1 {k j : Nat} (h : tbB C mt b nm C' mt') (h1 : k ≠ 1) (h22 : k ≠ 22) (h23 : k ≠ 23) (h21 : k ≠ 21) (h20 : k ≠ 20) (h8 : k ≠ 8) : C'.1 k j = C.1 k j := by
  obtain ⟨C2, ⟨f, _⟩, ⟨⟨g, _⟩, _⟩⟩ := h
  exact (g.1 k j (by omega) h22 h23 (by omega) h20 h8).trans ((nwC_1 h20 h21).trans (f.1 k j (by omega)))
set_option maxRecDepth 100000 in
theorem tbB_2 {k j : Nat} (h : tbB C mt b nm C' mt') (h1 : k ≠ 1) (h20 : k ≠ 20) (h7 : k ≠ 7) (h9 : k ≠ 9) (h10 : k ≠ 10) : C'.2.1 k j = C.2.1 k j := by
  obtain ⟨C2, ⟨f, _⟩, ⟨⟨g, _⟩, _⟩⟩ := h
  exact (g.2.1 k j (by omega) h20 h7 h9 h10).trans ((by rw [nwC_2, if_neg (by omega)] : (nwC C2 b nm).2.1 k j = C2.2.1 k j).trans (f.2.1 k j (by omega)))
set_option maxRecDepth 100000 in
theorem tbB_3 {k j : Nat} (h : tbB C mt b nm C' mt') (h1 : k ≠ 1) (h20 : k ≠ 20) (h11 : k ≠ 11) : C'.2.2 k j = C.2.2 k j := by
  obtain ⟨C2, ⟨f, _⟩, ⟨⟨g, _⟩, _⟩⟩ := h
  exact (g.2.2 k j (by omega) h20 h11).trans (f.2.2 k j (by omega))
set_option maxRecDepth 100000 in
theorem tbB_n {j : Nat} (h : tbB C mt b nm C' mt') : (j ≠ b → C'.2.1 7 j = C.2.1 7 j ∧ C'.1 8 j = C.1 8 j) ∧ C'.2.1 7 b = nm ∧ (∀ k, ¬ (b * 6 ≤ k ∧ k < b * 6 + 6) → C'.2.1 9 k = C.2.1 9 k ∧ C'.2.1 10 k = C.2.1 10 k) := by
  obtain ⟨C2, ⟨f, _⟩, _, ⟨a1, a2, a3⟩, _⟩ := h
  refine ⟨fun hj => ⟨(a1 j hj).1.trans ?_, (a1 j hj).2.trans ?_⟩, a2.trans ?_, fun k hk => ⟨(a3 k hk).1.trans ?_, (a3 k hk).2.trans ?_⟩⟩
  · rw [nwC_2, if_neg (by omega)]; exact f.2.1 7 j (by omega)
  · exact (nwC_1 (by omega) (by omega)).trans (f.1 8 j (by omega))
  · rw [nwC_2, if_pos ⟨rfl, rfl⟩]
  · rw [nwC_2, if_neg (by omega)]; exact f.2.1 9 k (by omega)
  · rw [nwC_2, if_neg (by omega)]; exact f.2.1 10 k (by omega)
set_option maxRecDepth 100000 in
theorem tbB_r (h : tbB C mt b nm C' mt') {i : Nat} (hi : i < 24) : C'.2.2 11 i = C.2.2 11 i ∨ (C.2.2 11 i = none ∧ ∃ k x l, C'.2.2 11 i = some (241 + k) ∧ mt'[k]? = some (.inr (7, .int x :: .int (nI b) :: l))) := by
  obtain ⟨C2, ⟨f, _⟩, _, _, a, _⟩ := h
  have e : (nwC C2 b nm).2.2 11 i = C.2.2 11 i := f.2.2 11 i (by omega)
  rw [← e]
  exact a i hi
set_option maxRecDepth 100000 in
theorem tbB_10 (h : tbB C mt b nm C' mt') : C'.1 20 10 = nI b ∧ C'.2.2 20 3 = C.2.2 20 3 ∧ tlE mt mt' := by
  obtain ⟨C2, ⟨f, _⟩, ⟨_, g⟩, _, _, a1, a2, _⟩ := h
  refine ⟨a1.trans ?_, a2.trans (f.2.2 20 3 (by omega)), g⟩
  unfold nwC
  rw [sI_1, if_neg (by omega), sI_1, if_neg (by omega), sI_1, if_pos ⟨rfl, rfl⟩]
/-! whose rules the slots hold then -/
set_option maxRecDepth 100000 in
theorem SLt_B {b0 : Nat} (hA : wOk W) (hb : b < 6) (K : KSc C mt W) (h : tbB C mt b nm C' mt') (e0 : b0 = b) : ∃ tbo, SLt C' mt' 11 0 24 tbo ∧ ∀ i, i < 24 → (tbo i = some b0 ∧ C.2.2 11 i = none) ∨ (tbo i = tbU (wU W) i ∧ C'.2.2 11 i = C.2.2 11 i) := by
  subst e0
  have hS := SLt_K hA K
  refine ⟨fun i => if C'.2.2 11 i = C.2.2 11 i then tbU (wU W) i else some b0, fun j _ hj => ?_, fun i hi => ?_⟩
  · by_cases e : C'.2.2 11 j = C.2.2 11 j
    · have := hS j (Nat.zero_le j) hj
      show match (if C'.2.2 11 j = C.2.2 11 j then tbU (wU W) j else some b0) with
        | none => C'.2.2 11 j = none
        | some tb => ∃ k x l, C'.2.2 11 j = some (241 + k) ∧ mt'[k]? = some (.inr (7, .int x :: .int (nI tb) :: l)) ∧ tb < 6
      rw [if_pos e, e]
      cases hq : tbU (wU W) j with
      | none =>
        rw [hq] at this
        exact this
      | some q =>
        rw [hq] at this
        obtain ⟨k, x, l, a1, a2, a3⟩ := this
        exact ⟨k, x, l, a1, (tbB_10 h).2.2 _ _ a2, a3⟩
    · show match (if C'.2.2 11 j = C.2.2 11 j then tbU (wU W) j else some b0) with
        | none => C'.2.2 11 j = none
        | some tb => ∃ k x l, C'.2.2 11 j = some (241 + k) ∧ mt'[k]? = some (.inr (7, .int x :: .int (nI tb) :: l)) ∧ tb < 6
      rw [if_neg e]
      rcases tbB_r h hj with z | ⟨z, k, x, l, a1, a2⟩
      · exact absurd z e
      · exact ⟨k, x, l, a1, a2, hb⟩
  · by_cases e : C'.2.2 11 i = C.2.2 11 i
    · exact Or.inr ⟨if_pos e, e⟩
    · rcases tbB_r h hi with z | ⟨z, _⟩
      · exact absurd z e
      · exact Or.inl ⟨if_neg e, z⟩
set_option maxRecDepth 100000 in
theorem SLg_B (hA : wOk W) (K : KSc C mt W) (h : tbB C mt b nm C' mt') : SLg C' mt' 12 0 8 (tbG (wG W)) := fun j h0 hj => by
  have := SLg_K hA K j h0 hj
  cases hq : tbG (wG W) j with
  | none =>
    rw [hq] at this
    exact (tbB_3 h (by omega) (by omega) (by omega)).trans this
  | some q =>
    rw [hq] at this
    obtain ⟨k, x, l, a1, a2, a3⟩ := this
    exact ⟨k, x, l, (tbB_3 h (by omega) (by omega) (by omega)).trans a1, (tbB_10 h).2.2 _ _ a2, a3⟩
/-! undone: as it was -/
set_option maxRecDepth 100000 in
theorem KI_un {tbo : Nat → Option Nat} {C3 : co_T} (hA : wOk W) (hb : b < 6) (hz : (wT W).1.1 b = 0) (h : tbB C (msk (mBk Ks) u) b nm C' (msk (mBk Ks) u')) (fv : frVm (mBk Ks) u u') (ht : ∀ i, i < 24 → (tbo i = some b ∧ C.2.2 11 i = none) ∨ (tbo i = tbU (wU W) i ∧ C'.2.2 11 i = C.2.2 11 i)) (g1 : drS (dpC C' b) C1 11 0 24 b tbo) (g2 : drS C1 C3 12 0 8 b (tbG (wG W))) (K : KI C u Ks W) : KI C3 u' Ks W := by
  obtain ⟨k1, ⟨k2, k2b, k2c⟩, k3, k4, k5⟩ := K
  obtain ⟨a1, a2, a3, a4⟩ := g1
  obtain ⟨b1, b2, b3, b4⟩ := g2
  have hwd := (hA.1.1 b hb).2.2 hz
  have hrs := hA.2.2.2.2.1 b hb hz
  have eI : ∀ k j, C3.1 k j = (dpC C' b).1 k j := fun k j => by rw [b1, a1]
  have eJ : ∀ k j, C3.2.1 k j = (dpC C' b).2.1 k j := fun k j => by rw [b2, a2]
  have eI2 : ∀ k j, ¬ ((k = 8 ∨ k = 16 ∨ k = 17) ∧ j = b) → (dpC C' b).1 k j = C'.1 k j := fun k j h => by
    unfold dpC
    rw [sI_1, if_neg (by omega), sI_1, if_neg (by omega), sI_1, if_neg (by omega)]
    rfl
  have eJ2 : ∀ k j, ¬ (k = 7 ∧ j = b) → (dpC C' b).2.1 k j = C'.2.1 k j := fun k j h => by
    show (sJ C' 7 b 0).2.1 k j = _
    rw [sJ_2, if_neg h]
  have e8 : (dpC C' b).1 8 b = 0 := by
    unfold dpC
    rw [sI_1, if_neg (by omega), sI_1, if_neg (by omega), sI_1, if_pos ⟨rfl, rfl⟩]
  have e16 : (dpC C' b).1 16 b = 0 := by
    unfold dpC
    rw [sI_1, if_neg (by omega), sI_1, if_pos ⟨rfl, rfl⟩]
  have e17 : (dpC C' b).1 17 b = 0 := by
    unfold dpC
    rw [sI_1, if_pos ⟨rfl, rfl⟩]
  have e7 : (dpC C' b).2.1 7 b = 0 := by
    show (sJ C' 7 b 0).2.1 7 b = 0
    rw [sJ_2, if_pos ⟨rfl, rfl⟩]
  have eQ : ∀ k j, k ≠ 11 → k ≠ 12 → C3.2.2 k j = C'.2.2 k j := fun k j h1 h2 => (b3 k j h2).trans ((a3 k j h1).trans rfl)
  have cI : ∀ k j, k ≠ 1 → k ≠ 22 → k ≠ 23 → k ≠ 21 → k ≠ 20 → k ≠ 8 → k ≠ 16 → k ≠ 17 → C3.1 k j = C.1 k j := fun k j q1 q2 q3 q4 q5 q6 q7 q8 => (eI k j).trans ((eI2 k j (by omega)).trans (tbB_1 h q1 q2 q3 q4 q5 q6))
  refine ⟨bkO_f k1 fv, ⟨⟨⟨fun q hq => ?_, fun q hq => ⟨?_, (k2.1.2 q hq).2.1, fun c hc => ?_⟩⟩, fun q c hq hc => ?_, fun i hi => ?_⟩, fun i hi => ?_, fun j hj => ?_⟩, ⟨fun q hq => ⟨(k3.1 q hq).1, ?_, (k3.1 q hq).2.2.1, fun k r hr => ?_⟩, fun q hq => ?_⟩, KTx_g (fun j hj => cI 6 j (by omega) (by omega) (by omega) (by omega) (by omega) (by omega) (by omega) (by omega)) (fun j => (eJ 19 j).trans ((eJ2 19 j (by omega)).trans (tbB_2 h (by omega) (by omega) (by omega) (by omega) (by omega)))) k4, KAs_g (fun k j hk => (eQ k j (by omega) (by omega)).trans (tbB_3 h (by omega) (by omega) (by omega))) fv k4.2.2.2.1 k5⟩
  · rw [eJ]
    by_cases e : q = b
    · rw [e, e7]; exact hz.symm
    · rw [eJ2 _ _ (by omega), ((tbB_n h).1 e).1]; exact k2.1.1 q hq
  · rw [eI]
    by_cases e : q = b
    · rw [e, e8]
      show (0 : Int32) = nI ((wT W).1.2.1 b)
      rw [hwd]; rfl
    · rw [eI2 _ _ (by omega), ((tbB_n h).1 e).2]; exact (k2.1.2 q hq).1
  · have hc : c < (wT W).1.2.1 q := hc
    by_cases e : q = b
    · rw [e, hwd] at hc; omega
    · have h6 := (k2.1.2 q hq).2.1
      rw [eJ, eJ2 _ _ (by omega), ((tbB_n (j := 0) h).2.2 _ (by omega)).1]; exact (k2.1.2 q hq).2.2 c hc
  · have hc : c < (wT W).1.2.1 q := hc
    by_cases e : q = b
    · rw [e, hwd] at hc; omega
    · have h6 := (k2.1.2 q hq).2.1
      rw [eJ, eJ2 _ _ (by omega), ((tbB_n (j := 0) h).2.2 _ (by omega)).2]; exact k2.2.1 q c hq hc
  · rw [b3 11 i (by omega), a4 i hi]
    have hk := k2.2.2 i hi
    rcases ht i hi with ⟨z1, z2⟩ | ⟨z1, z2⟩
    · rw [if_pos ⟨Nat.zero_le i, z1⟩]
      rw [z2] at hk
      cases e : (wT W).2.2 i with
      | none => rfl
      | some v =>
        rw [e] at hk
        obtain ⟨k, q1, _⟩ := hk
        cases q1
    · have hne : ¬ (0 ≤ i ∧ tbo i = some b) := fun z => by
        rw [z1] at z
        unfold tbU at z
        cases e : wU W i with
        | none => rw [e] at z; cases z.2
        | some v =>
          rw [e] at z
          have z2 := z.2
          injection z2 with z2
          exact (hA.1.2 i v e).2.1 (by rw [z2]; exact hz)
      rw [if_neg hne]
      show opK _ (C'.2.2 11 i) _
      rw [z2]
      exact opK_m (fun k v => RUK_e (tbB_10 h).2.2) hk
  · rw [b4 i hi]
    have hne : ¬ (0 ≤ i ∧ tbG (wG W) i = some b) := fun z => by
      unfold tbG at z
      cases e : wG W i with
      | none => rw [e] at z; cases z.2
      | some v =>
        rw [e] at z
        have z2 := z.2
        injection z2 with z2
        exact (hA.2.1 i v e).2.1 (by rw [z2]; exact hz)
    rw [if_neg hne, a3 12 i (by omega)]
    show opK _ (C'.2.2 12 i) _
    rw [tbB_3 h (by omega) (by omega) (by omega)]
    exact opK_m (fun k v => TRn_e (tbB_10 h).2.2) (k2b i hi)
  · rw [eQ 30 j (by omega) (by omega), eQ 45 j (by omega) (by omega), eQ 60 j (by omega) (by omega), tbB_3 h (by omega) (by omega) (by omega), tbB_3 h (by omega) (by omega) (by omega), tbB_3 h (by omega) (by omega) (by omega)]
    exact k2c j hj
  · rw [eI]
    by_cases e : q = b
    · rw [e, e16, hrs]; rfl
    · rw [eI2 _ _ (by omega), tbB_1 h (by omega) (by omega) (by omega) (by omega) (by omega) (by omega)]; exact (k3.1 q hq).2.1
  · obtain ⟨z1, z2⟩ := (k3.1 q hq).2.2.2 k r hr
    exact ⟨(cI 15 _ (by omega) (by omega) (by omega) (by omega) (by omega) (by omega) (by omega) (by omega)).trans z1, fun c hc => (eJ 14 _).trans ((eJ2 14 _ (by omega)).trans ((tbB_2 h (by omega) (by omega) (by omega) (by omega) (by omega)).trans (z2 c hc)))⟩
  · rw [eI]
    by_cases e : q = b
    · rw [e, e17, hrs]
    · rw [eI2 _ _ (by omega), tbB_1 h (by omega) (by omega) (by omega) (by omega) (by omega) (by omega)]; exact k3.2 q hq
/-! a table stands -/
set_option maxRecDepth 100000 in
theorem KI_tb (hA : wOk W) (hx : xIn (wX W) = false) (hb : b < 6) (hz : (wT W).1.1 b = 0) (hT6 : ∀ q, q < 6 → T'.1.2.1 q ≤ 6) (hTw : ∀ q, q ≠ b → T'.1.2.1 q = (wT W).1.2.1 q) (hB : BK C' (msk (mBk Ks) u') T') (h : tbB C (msk (mBk Ks) u) b nm C' (msk (mBk Ks) u')) (fv : frVm (mBk Ks) u u') (K : KI C u Ks W) : KI C' u' Ks (T', W.2) := by
  obtain ⟨k1, ⟨k2, k2b, k2c⟩, k3, k4, k5⟩ := K
  have hrs := hA.2.2.2.2.1 b hb hz
  have ka := KAs_g (C' := C') (fun k j hk => tbB_3 h (by omega) (by omega) (by omega)) fv k4.2.2.2.1 k5
  refine ⟨bkO_f k1 fv, ⟨hB, fun i hi => ?_, fun j hj => ?_⟩, ⟨fun q hq => ⟨hT6 q hq, ?_, (k3.1 q hq).2.2.1, fun k r hr => ?_⟩, fun q hq => ?_⟩, KTx_g (fun j hj => tbB_1 h (by omega) (by omega) (by omega) (by omega) (by omega) (by omega)) (fun j => tbB_2 h (by omega) (by omega) (by omega) (by omega) (by omega)) k4, ka.1, fun z => (by have z : xIn (wX W) = true := z; rw [hx] at z; cases z), fun j hj => (by have hj : j < (xMk (wX W)).1 := hj; rw [(hA.2.2.2.1.2.1 hx).2] at hj; omega)⟩
  · rw [tbB_3 h (by omega) (by omega) (by omega)]
    exact opK_m (fun k v => TRn_e (tbB_10 h).2.2) (k2b i hi)
  · rw [tbB_3 h (by omega) (by omega) (by omega), tbB_3 h (by omega) (by omega) (by omega), tbB_3 h (by omega) (by omega) (by omega)]
    exact k2c j hj
  · exact (tbB_1 h (by omega) (by omega) (by omega) (by omega) (by omega) (by omega)).trans (k3.1 q hq).2.1
  · have hr : (wR W q).1[k]? = some r := hr
    obtain ⟨z1, z2⟩ := (k3.1 q hq).2.2.2 k r hr
    refine ⟨(tbB_1 h (by omega) (by omega) (by omega) (by omega) (by omega) (by omega)).trans z1, fun c hc => (tbB_2 h (by omega) (by omega) (by omega) (by omega) (by omega)).trans (z2 c ?_)⟩
    have hc : c < T'.1.2.1 q := hc
    by_cases e : q = b
    · rw [e, hrs] at hr
      cases hr
    · rw [hTw q e] at hc
      exact hc
  · exact (tbB_1 h (by omega) (by omega) (by omega) (by omega) (by omega) (by omega)).trans (k3.2 q hq)
end KTA
