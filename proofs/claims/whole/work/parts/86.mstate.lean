/-! THE OTHER SIDE'S FORMULAS, 2: the state that it keeps -/
def sgO (a : Int32) (v : Int64) : Prop := (a = 9 ∧ v = 43) ∨ (a = 10 ∧ v = 45) ∨ (a = 11 ∧ v = 42) ∨ (a = 12 ∧ v = 47) ∨ (a = 13 ∧ v = 61) ∨ (a = 14 ∧ v = 35) ∨ (a = 15 ∧ v = 60) ∨ (a = 16 ∧ v = 160) ∨ (a = 17 ∧ v = 62) ∨ (a = 18 ∧ v = 162)
/-! one operation, as both sides write it -/
def eqO (q : Int32 × Int32) (w : Int32) (v : Int64) : Prop := (q.1 = 0 ∧ w = 1 ∧ v = q.2.toInt64) ∨ (q.1 = 1 ∧ w = 2) ∨ (q.1 = 2 ∧ w = 3 ∧ v = q.2.toInt64) ∨ (q.1 = 3 ∧ w = 4 ∧ v = q.2.toInt64) ∨ (q.1 = 4 ∧ w = 5 ∧ v = q.2.toInt64) ∨ (q.1 = 5 ∧ w = 6) ∨ (q.1 = 6 ∧ w = 7) ∨ (q.1 = 7 ∧ w = 8) ∨ (q.1 = 8 ∧ w = 9) ∨ (q.1 = 19 ∧ w = 11) ∨ (q.1 = 20 ∧ w = 10) ∨ (w = 12 ∧ sgO q.1 v)
section MKS
variable {L : Nat} {xs : Nat → Int32} {t : ab_H} {d n p b wb e : Nat} {B : Nat → Nat} {C0 C C' : co_T} {s : fs_T} {W : List (Int32 × Int64)}
/-! what stays -/
def frG (p b wb : Nat) (C C' : co_T) : Prop := (∀ k j, ¬ (k = 76 ∧ (j = 3 ∨ j = 4 ∨ j = 5 ∨ j = 6 ∨ j = 8 ∨ j = 9 ∨ j = 41 ∨ j = 42 ∨ j = 45 ∨ j = 52)) → ¬ (k = 106 ∧ 620 * p + b ≤ j ∧ j < 620 * p + 620) → ¬ (k = 108 ∧ wb ≤ j) → C'.1 k j = C.1 k j) ∧ (∀ k j, ¬ (k = 76 ∧ j = 7) → ¬ (k = 107 ∧ 620 * p + b ≤ j ∧ j < 620 * p + 620) → ¬ (k = 109 ∧ wb ≤ j) → C'.2.1 k j = C.2.1 k j) ∧ C'.2.2 = C.2.2
set_option maxRecDepth 100000 in
theorem frG_t {C1 C2 C3 : co_T} (h : frG p b wb C1 C2) (g : frG p b wb C2 C3) : frG p b wb C1 C3 := ⟨fun k j a c e => (g.1 k j a c e).trans (h.1 k j a c e), fun k j a c e => (g.2.1 k j a c e).trans (h.2.1 k j a c e), g.2.2.trans h.2.2⟩
set_option maxRecDepth 100000 in
theorem frG_r : frG p b wb C C := ⟨fun _ _ _ _ _ => rfl, fun _ _ _ _ _ => rfl, rfl⟩
set_option maxRecDepth 100000 in
theorem frG_T (h : frT C C') : frG p b wb C C' := ⟨fun k j a _ _ => h.1 k j (by omega), fun k j a _ _ => h.2.1 k j a, h.2.2⟩
set_option maxRecDepth 100000 in
theorem frG_I {j : Nat} {v : Int32} (h : j = 41 ∨ j = 42 ∨ j = 45 ∨ j = 52) : frG p b wb C (sI C 76 j v) := ⟨fun k q a _ _ => by rw [sI_1, if_neg (by omega)], fun _ _ _ _ _ => rfl, rfl⟩
set_option maxRecDepth 100000 in
theorem frG_p {k : Nat} {a : Int32} {v : Int64} (h : wb ≤ k) : frG p b wb C (psC C k a v) := by
  unfold psC
  refine ⟨fun q j h1 h2 h3 => ?_, fun q j h1 h2 h3 => ?_, rfl⟩
  · rw [sI_1, if_neg (by omega), sJ_1, sI_1, if_neg (by omega)]
  · rw [sI_2, sJ_2, if_neg (by omega)]
    rfl
set_option maxRecDepth 100000 in
theorem frG_s {u : Nat} {a : Int32} {v : Int64} (h : b ≤ u) (h2 : u < 620) : frG p b wb C (stC C p u a v) := by
  unfold stC
  refine ⟨fun q j h3 h4 h5 => ?_, fun q j h3 h4 h5 => ?_, rfl⟩
  · rw [sI_1, if_neg (by omega), sJ_1, sI_1, if_neg (by omega)]
  · rw [sI_2, sJ_2, if_neg (by omega)]
    rfl
/-! the nodes that are left -/
def lfM (C : co_T) : Option Nat → Prop
  | none => C.1 76 44 = 0
  | some k => C.1 76 44 = 1 ∧ ∃ a c, C.1 76 43 = nI a ∧ C.1 76 42 = nI c ∧ a + c + k = 400
/-! place p, first step b; stack above wb; e: how much steps and stack may lie ahead of the tokens -/
def MK (B : Nat → Nat) (n : Nat) (C0 C : co_T) (p b wb e : Nat) (s : fs_T) (W : List (Int32 × Int64)) : Prop := tpM C B n ∧ rgT B n C s.1 ∧ (C.1 76 40 = nI p ∧ p ≤ 40) ∧ C.1 76 41 = nI (b + s.2.1.length) ∧ (∀ j q, s.2.1[j]? = some q → eqO q (C.1 106 (620 * p + (b + j))) (C.2.1 107 (620 * p + (b + j)))) ∧ C.1 76 45 = nI s.2.2.1 ∧ s.2.2.1 ≤ 10 ∧ lfM C s.2.2.2 ∧ C.1 76 52 = nI (wb + W.length) ∧ (∀ j q, W[j]? = some q → C.1 108 (wb + j) = q.1 ∧ C.2.1 109 (wb + j) = q.2) ∧ b + s.2.1.length + (wb + W.length) ≤ s.1 + e ∧ e ≤ 12 ∧ s.1 ≤ 600 ∧ frG p b wb C0 C
set_option maxRecDepth 100000 in
theorem lfM_of {o : Option Nat} (h : lfM C o) (h1 : C'.1 76 44 = C.1 76 44) (h2 : C'.1 76 43 = C.1 76 43) (h3 : C'.1 76 42 = C.1 76 42) : lfM C' o := by
  cases o with
  | none => exact h1.trans h
  | some k =>
    obtain ⟨g1, a, c, g2, g3, g4⟩ := h
    exact ⟨h1.trans g1, a, c, h2.trans g2, h3.trans g3, g4⟩
set_option maxRecDepth 100000 in
theorem tpM_of (T : tpM C B n) (h1 : C'.1 76 2 = C.1 76 2) (h2 : ∀ i, C'.1 77 i = C.1 77 i) : tpM C' B n := ⟨by rw [h1]; exact T.1, T.2.1, fun i hi => ⟨(T.2.2 i hi).1, by rw [h2]; exact (T.2.2 i hi).2⟩⟩
/-! the step -/
set_option maxRecDepth 100000 in
theorem MK_n (M : MK B n C0 C p b wb (e + 1) s W) (h : kd B n (s.1 + 1) ≠ 1) (h6 : s.1 < 600) : MK B n C0 (nxR B n C s.1) p b wb e (nxt s) W := by
  obtain ⟨T, R, ⟨hp, hp4⟩, hu, ho, hq, h10, hL, hw, hW, hb, he, hi, hf⟩ := M
  have fr := nxR_fr (C := C) (B := B) (n := n) (i := s.1)
  refine ⟨tpM_of T (fr.1 76 2 (by omega)) (fun i => fr.1 77 i (by omega)), nxR_ok T R h, ⟨(fr.1 76 40 (by omega)).trans hp, hp4⟩, (fr.1 76 41 (by omega)).trans hu, fun j q hj => ?_, (fr.1 76 45 (by omega)).trans hq, h10, lfM_of hL (fr.1 76 44 (by omega)) (fr.1 76 43 (by omega)) (fr.1 76 42 (by omega)), (fr.1 76 52 (by omega)).trans hw, fun j q hj => ?_, ?_, by omega, h6, frG_t hf (frG_T fr)⟩
  · rw [fr.1 106 _ (by omega), fr.2.1 107 _ (by omega)]
    exact ho j q hj
  · rw [fr.1 108 _ (by omega), fr.2.1 109 _ (by omega)]
    exact hW j q hj
  · show b + s.2.1.length + (wb + W.length) ≤ s.1 + 1 + e
    omega
/-! onto the stack -/
set_option maxRecDepth 100000 in
theorem MK_p {a : Int32} {v : Int64} (M : MK B n C0 C p b wb e s W) (h : e < 12) : MK B n C0 (psC C (wb + W.length) a v) p b wb (e + 1) s (W ++ [(a, v)]) := by
  obtain ⟨T, R, ⟨hp, hp4⟩, hu, ho, hq, h10, hL, hw, hW, hb, he, hi, hf⟩ := M
  have e1 : ∀ k j, ¬ (k = 76 ∧ j = 52) → k ≠ 108 → (psC C (wb + W.length) a v).1 k j = C.1 k j := by
    intro k j h1 h2
    unfold psC
    rw [sI_1, if_neg (by omega), sJ_1, sI_1, if_neg (by omega)]
  have e2 : ∀ k j, k ≠ 109 → (psC C (wb + W.length) a v).2.1 k j = C.2.1 k j := by
    intro k j h1
    unfold psC
    rw [sI_2, sJ_2, if_neg (by omega)]
    rfl
  refine ⟨tpM_of T (e1 76 2 (by omega) (by omega)) (fun i => e1 77 i (by omega) (by omega)), ⟨R.1, (e1 76 8 (by omega) (by omega)).trans R.2.1, (e1 76 4 (by omega) (by omega)).trans R.2.2.1, (e2 76 7 (by omega)).trans R.2.2.2.1, (e1 76 5 (by omega) (by omega)).trans R.2.2.2.2.1, (e1 76 6 (by omega) (by omega)).trans R.2.2.2.2.2⟩, ⟨(e1 76 40 (by omega) (by omega)).trans hp, hp4⟩, (e1 76 41 (by omega) (by omega)).trans hu, fun j q hj => ?_, (e1 76 45 (by omega) (by omega)).trans hq, h10, lfM_of hL (e1 76 44 (by omega) (by omega)) (e1 76 43 (by omega) (by omega)) (e1 76 42 (by omega) (by omega)), ?_, fun j q hj => ?_, ?_, by omega, hi, frG_t hf (frG_p (Nat.le_add_right _ _))⟩
  · rw [e1 106 _ (by omega) (by omega), e2 107 _ (by omega)]
    exact ho j q hj
  · show nI (wb + W.length + 1) = _
    rw [List.length_append, List.length_singleton, Nat.add_assoc]
  · have e3 : (psC C (wb + W.length) a v).1 108 (wb + j) = if j = W.length then a else C.1 108 (wb + j) := by
      unfold psC
      rw [sI_1, if_neg (by omega), sJ_1, sI_1]
      by_cases hj2 : j = W.length
      · rw [if_pos hj2, if_pos ⟨rfl, by omega⟩]
      · rw [if_neg hj2, if_neg (by omega)]
    have e4 : (psC C (wb + W.length) a v).2.1 109 (wb + j) = if j = W.length then v else C.2.1 109 (wb + j) := by
      unfold psC
      rw [sI_2, sJ_2]
      by_cases hj2 : j = W.length
      · rw [if_pos hj2, if_pos ⟨rfl, by omega⟩]
      · rw [if_neg hj2, if_neg (by omega)]
        rfl
    rw [e3, e4]
    by_cases hj2 : j < W.length
    · rw [if_neg (by omega), if_neg (by omega)]
      rw [List.getElem?_append_left hj2] at hj
      exact hW j q hj
    · by_cases hj3 : j = W.length
      · subst hj3
        rw [List.getElem?_append_right (Nat.le_refl _), Nat.sub_self] at hj
        cases hj
        rw [if_pos rfl, if_pos rfl]
        exact ⟨rfl, rfl⟩
      · rw [List.getElem?_eq_none (by rw [List.length_append, List.length_singleton]; omega)] at hj
        cases hj
  · rw [List.length_append, List.length_singleton]
    omega
/-! an operation -/
set_option maxRecDepth 100000 in
theorem MK_s {a c : Int32} {w : Int32} {v : Int64} (M : MK B n C0 C p b wb e s W) (h : e < 12) (hq : eqO (a, c) w v) : MK B n C0 (stC C p (b + s.2.1.length) w v) p b wb (e + 1) (emt s a c) W := by
  obtain ⟨T, R, ⟨hp, hp4⟩, hu, ho, hq0, h10, hL, hw, hW, hb, he, hi, hf⟩ := M
  have e1 : ∀ k j, ¬ (k = 76 ∧ j = 41) → k ≠ 106 → (stC C p (b + s.2.1.length) w v).1 k j = C.1 k j := by
    intro k j h1 h2
    unfold stC
    rw [sI_1, if_neg (by omega), sJ_1, sI_1, if_neg (by omega)]
  have e2 : ∀ k j, k ≠ 107 → (stC C p (b + s.2.1.length) w v).2.1 k j = C.2.1 k j := by
    intro k j h1
    unfold stC
    rw [sI_2, sJ_2, if_neg (by omega)]
    rfl
  have hlen : (emt s a c).2.1.length = s.2.1.length + 1 := by show (s.2.1 ++ [_]).length = _; rw [List.length_append, List.length_singleton]
  refine ⟨tpM_of T (e1 76 2 (by omega) (by omega)) (fun i => e1 77 i (by omega) (by omega)), ⟨R.1, (e1 76 8 (by omega) (by omega)).trans R.2.1, (e1 76 4 (by omega) (by omega)).trans R.2.2.1, (e2 76 7 (by omega)).trans R.2.2.2.1, (e1 76 5 (by omega) (by omega)).trans R.2.2.2.2.1, (e1 76 6 (by omega) (by omega)).trans R.2.2.2.2.2⟩, ⟨(e1 76 40 (by omega) (by omega)).trans hp, hp4⟩, ?_, fun j q hj => ?_, (e1 76 45 (by omega) (by omega)).trans hq0, h10, lfM_of hL (e1 76 44 (by omega) (by omega)) (e1 76 43 (by omega) (by omega)) (e1 76 42 (by omega) (by omega)), (e1 76 52 (by omega) (by omega)).trans hw, fun j q hj => ?_, ?_, by omega, hi, frG_t hf (frG_s (Nat.le_add_right _ _) (by omega))⟩
  · show nI (b + s.2.1.length + 1) = _
    rw [hlen, Nat.add_assoc]
  · have e3 : (stC C p (b + s.2.1.length) w v).1 106 (620 * p + (b + j)) = if j = s.2.1.length then w else C.1 106 (620 * p + (b + j)) := by
      unfold stC
      rw [sI_1, if_neg (by omega), sJ_1, sI_1]
      by_cases hj2 : j = s.2.1.length
      · rw [if_pos hj2, if_pos ⟨rfl, by omega⟩]
      · rw [if_neg hj2, if_neg (by omega)]
    have e4 : (stC C p (b + s.2.1.length) w v).2.1 107 (620 * p + (b + j)) = if j = s.2.1.length then v else C.2.1 107 (620 * p + (b + j)) := by
      unfold stC
      rw [sI_2, sJ_2]
      by_cases hj2 : j = s.2.1.length
      · rw [if_pos hj2, if_pos ⟨rfl, by omega⟩]
      · rw [if_neg hj2, if_neg (by omega)]
        rfl
    rw [e3, e4]
    have hj : (s.2.1 ++ [(a, c)])[j]? = some q := hj
    by_cases hj2 : j < s.2.1.length
    · rw [if_neg (by omega), if_neg (by omega)]
      rw [List.getElem?_append_left hj2] at hj
      exact ho j q hj
    · by_cases hj3 : j = s.2.1.length
      · subst hj3
        rw [List.getElem?_append_right (Nat.le_refl _), Nat.sub_self] at hj
        cases hj
        rw [if_pos rfl, if_pos rfl]
        exact hq
      · rw [List.getElem?_eq_none (by rw [List.length_append, List.length_singleton]; omega)] at hj
        cases hj
  · rw [e1 108 _ (by omega) (by omega), e2 109 _ (by omega)]
    exact hW j q hj
  · rw [hlen]
    show b + (s.2.1.length + 1) + (wb + W.length) ≤ s.1 + (e + 1)
    omega
end MKS
