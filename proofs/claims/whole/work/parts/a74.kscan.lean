
/-! ONE SIDE: a statement is read, 1: names are not 0; the scan -/
section SCN
variable {L : Nat} {xs : Nat → Int32} {B : Nat → Nat} {n m : Nat} {C C' C0 C1 : co_T} {t t0 t1 : ab_H} {d sl sl0 sl1 i i0 i1 j b e ti k k0 kc ks w c : Nat} {sc : sc_T} {row : Option Nat} {tg : Option (Nat × Nat)} {nl : Option Nat} {kd0 tb0 : Int32} {P : Option Value → ab_H → Nat → Prop} {X : Nat → ab_H → Nat → Prop} {cs : List Nat} {ss : List (Option (List op_T))} {E : fe_T} {tr : Nat → Option tr_T}
set_option maxRecDepth 100000 in
theorem nam_nz (h : kd B n i = 3) : vl B n i ≠ 0 := by
  intro h0
  have hlt : tkA B n i < n := kd_end (by rw [h]; decide)
  cases hF : atF B n (tkA B n i) with
  | false =>
    have hk := h
    unfold kd tkK at hk
    rw [if_neg (by omega), hF, cond_false] at hk
    have h4 : spt (vl B n i) 59 0 = 3 := by
      cases hL : atL B n (tkA B n i) with
      | true =>
        rw [hL, cond_true] at hk
        split at hk
        · omega
        · exact hk
      | false =>
        rw [hL, cond_false] at hk
        split at hk
        · omega
        · exact hk
    rw [h0] at h4
    exact absurd h4 (by decide)
  | true =>
    have hk := h
    unfold kd tkK at hk
    rw [if_neg (by omega), hF, cond_true] at hk
    split at hk <;> omega
/-! what the scan changes -/
def frSc (C C' : co_T) : Prop := (∀ k j, ¬ (k = 1 ∧ (j = 5 ∨ j = 7)) → k ≠ 4 → C'.1 k j = C.1 k j) ∧ (∀ k j, ¬ (k = 1 ∧ j = 8) → k ≠ 5 → C'.2.1 k j = C.2.1 k j) ∧ (∀ k j, ¬ (k = 1 ∧ j = 6) → k ≠ 3 → C'.2.2 k j = C.2.2 k j)
set_option maxRecDepth 100000 in
theorem scC_2 : ∀ (i k j : Nat), k ≠ 5 → (scC B n C i).2.1 k j = C.2.1 k j
  | 0, _, _, _ => rfl
  | i + 1, k, j, h => by
    show (sJ (scC B n C i) 5 i (vl B n i)).2.1 k j = _
    rw [sJ_2, if_neg (by omega)]
    exact scC_2 i k j h
set_option maxRecDepth 100000 in
theorem scC_3 : ∀ (i k j : Nat), k ≠ 3 → (scC B n C i).2.2 k j = C.2.2 k j
  | 0, _, _, _ => rfl
  | i + 1, k, j, h => by
    show (sQ (sJ (scC B n C i) 5 i (vl B n i)) 3 i (some (kd B n i))).2.2 k j = _
    rw [sQ_3, if_neg (by omega)]
    exact scC_3 i k j h
def scS (B : Nat → Nat) (n : Nat) (C : co_T) (m : Nat) : co_T := nxC (sI (scC B n C (m + 1)) 1 5 (-1)) 0 (kd B n 0)
set_option maxRecDepth 100000 in
theorem nxC_1 {k a q j : Nat} : (nxC C k a).1 q j = if q = 1 ∧ j = 7 then C.1 4 k else if q = 1 ∧ j = 5 then nI k else C.1 q j := by
  show (sI (sQ (sI C 1 5 (nI k)) 1 6 (some a)) 1 7 (C.1 4 k)).1 q j = _
  rw [sI_1, sQ_1, sI_1]
set_option maxRecDepth 100000 in
theorem nxC_2 {k a q j : Nat} : (nxC C k a).2.1 q j = if q = 1 ∧ j = 8 then C.2.1 5 k else C.2.1 q j := by
  unfold nxC
  rw [sJ_2]
  rfl
set_option maxRecDepth 100000 in
theorem nxC_3 {k a q j : Nat} : (nxC C k a).2.2 q j = if q = 1 ∧ j = 6 then some a else C.2.2 q j := by
  show (sQ (sI C 1 5 (nI k)) 1 6 (some a)).2.2 q j = _
  rw [sQ_3]
  rfl
set_option maxRecDepth 100000 in
theorem scS_f : frSc C (scS B n C m) := by
  refine ⟨fun k j a b => ?_, fun k j a b => ?_, fun k j a b => ?_⟩
  · unfold scS
    rw [nxC_1, if_neg (by omega), if_neg (by omega), sI_1, if_neg (by omega)]
    exact scC_1 _ k j b
  · unfold scS
    rw [nxC_2, if_neg a]
    exact scC_2 _ k j b
  · unfold scS
    rw [nxC_3, if_neg a]
    exact scC_3 _ k j b
set_option maxRecDepth 100000 in
theorem scS_S (Tp : tpK C B n) (hm : lst B n m) : tkS B n m (scS B n C m) 0 := by
  have f := scS_f (B := B) (n := n) (C := C) (m := m)
  have P := fun j (hj : j ≤ m) => scC_P (B := B) (n := n) (C := C) (m + 1) j (by omega)
  have P0 := P 0 (Nat.zero_le _)
  refine ⟨tpK_of Tp (f.1 1 4 (by omega) (by omega)) (fun j => f.1 2 j (by omega) (by omega)), hm, fun j hj => ?_, Nat.zero_le _, ?_, ?_, ?_, ?_⟩
  · unfold scS
    refine ⟨?_, ?_, ?_⟩
    · rw [nxC_3, if_neg (by omega)]
      exact (P j hj).1
    · rw [nxC_1, if_neg (by omega), if_neg (by omega), sI_1, if_neg (by omega)]
      exact (P j hj).2.1
    · rw [nxC_2, if_neg (by omega)]
      exact (P j hj).2.2
  · unfold scS
    rw [nxC_1, if_neg (by omega), if_pos ⟨rfl, rfl⟩]
  · unfold scS
    rw [nxC_3, if_pos ⟨rfl, rfl⟩]
  · unfold scS
    rw [nxC_1, if_pos ⟨rfl, rfl⟩, sI_1, if_neg (by omega)]
    exact P0.2.1
  · unfold scS
    rw [nxC_2, if_pos ⟨rfl, rfl⟩]
    exact P0.2.2
set_option maxRecDepth 100000 in
theorem m_13s (Tp : tpK C B n) (hm : lst B n m) : Wd L xs (d + 2) y_13 (0, [(0, .ref 101)], [], MH C t, sl) (Rt none (MH (scS B n C m) t) sl) nX := by
  refine Wd_q (m_13 Tp hm) (fun v h q p => ?_) (fun _ _ _ e => e)
  obtain ⟨p1, ⟨a, p2, p3⟩, p4⟩ := p
  have e := (scC_P (B := B) (n := n) (C := C) (m + 1) 0 (by omega)).1
  rw [e] at p2
  cases p2
  exact ⟨p1, p3, p4⟩
/-! SCK, RX, BK and the rest behind the scan -/
set_option maxRecDepth 100000 in
theorem frSc_K (f : frSc C C') {T : tb_S} (K : BK C t T) : BK C' t T := ⟨⟨fun b hb => (f.2.1 7 b (by omega) (by omega)).trans (K.1.1 b hb), fun b hb => ⟨(f.1 8 b (by omega) (by omega)).trans (K.1.2 b hb).1, (K.1.2 b hb).2.1, fun c hc => (f.2.1 9 _ (by omega) (by omega)).trans ((K.1.2 b hb).2.2 c hc)⟩⟩, fun b c hb hc => (f.2.1 10 _ (by omega) (by omega)).trans (K.2.1 b c hb hc), fun i hi => by
  rw [f.2.2 11 i (by omega) (by omega)]
  exact K.2.2 i hi⟩
end SCN
