/-! THE OTHER SIDE'S FORMULAS, 3: its small steps over the state -/
section MPR
variable {L : Nat} {xs : Nat → Int32} {t : ab_H} {d n p b wb e : Nat} {B : Nat → Nat} {C0 C : co_T} {s y : fs_T} {W : List (Int32 × Int64)}
/-! one field of the other side's own that holds no token: what it leaves -/
set_option maxRecDepth 100000 in
theorem MK_f {j : Nat} {v : Int32} (M : MK B n C0 C p b wb e s W) (hj : j = 42 ∨ j = 45 ∨ j = 52) {z : fs_T} {V : List (Int32 × Int64)} (h1 : z.1 = s.1) (h2 : z.2.1 = s.2.1) (h3 : (sI C 76 j v).1 76 45 = nI z.2.2.1) (h4 : z.2.2.1 ≤ 10) (h5 : lfM (sI C 76 j v) z.2.2.2) (h6 : (sI C 76 j v).1 76 52 = nI (wb + V.length)) (h7 : ∀ (i : Nat) (q : Int32 × Int64), V[i]? = some q → W[i]? = some q) {e2 : Nat} (h8 : b + s.2.1.length + (wb + V.length) ≤ s.1 + e2) (h9 : e2 ≤ 12) : MK B n C0 (sI C 76 j v) p b wb e2 z V := by
  obtain ⟨T, R, ⟨hp, hp4⟩, hu, ho, hq, h10, hL, hw, hW, hb, he, hi, hf⟩ := M
  have e1 : ∀ k i, ¬ (k = 76 ∧ i = j) → (sI C 76 j v).1 k i = C.1 k i := fun k i h => by rw [sI_1, if_neg h]
  refine ⟨tpM_of T (e1 76 2 (by omega)) (fun i => e1 77 i (by omega)), ?_, ⟨(e1 76 40 (by omega)).trans hp, hp4⟩, ?_, fun i q hq => ?_, h3, h4, h5, h6, fun i q hq => ?_, ?_, h9, by rw [h1]; exact hi, frG_t hf (frG_I (by omega))⟩
  · rw [h1]
    exact ⟨R.1, (e1 76 8 (by omega)).trans R.2.1, (e1 76 4 (by omega)).trans R.2.2.1, R.2.2.2.1, (e1 76 5 (by omega)).trans R.2.2.2.2.1, (e1 76 6 (by omega)).trans R.2.2.2.2.2⟩
  · rw [e1 76 41 (by omega), h2]
    exact hu
  · rw [h2] at hq
    rw [e1 106 _ (by omega)]
    exact ho i q hq
  · rw [e1 108 _ (by omega)]
    exact hW i q (h7 i q hq)
  · rw [h1, h2]
    exact h8
/-! what is open -/
set_option maxRecDepth 100000 in
theorem MK_o (M : MK B n C0 C p b wb e s W) (h : s.2.2.1 < 10) : MK B n C0 (sI C 76 45 (nI (s.2.2.1 + 1))) p b wb e (s.1, s.2.1, s.2.2.1 + 1, s.2.2.2) W :=
  MK_f (j := 45) (v := nI (s.2.2.1 + 1)) (z := (s.1, s.2.1, s.2.2.1 + 1, s.2.2.2)) (V := W) (e2 := e) M (by omega) rfl rfl rfl h (lfM_of M.2.2.2.2.2.2.2.1 rfl rfl rfl) M.2.2.2.2.2.2.2.2.1 (fun _ _ z => z) M.2.2.2.2.2.2.2.2.2.2.1 M.2.2.2.2.2.2.2.2.2.2.2.1
set_option maxRecDepth 100000 in
theorem MK_c (M : MK B n C0 C p b wb e s W) : MK B n C0 (sI C 76 45 (nI (s.2.2.1 - 1))) p b wb e (gou s) W :=
  MK_f (j := 45) (v := nI (s.2.2.1 - 1)) (z := gou s) (V := W) (e2 := e) M (by omega) rfl rfl rfl (Nat.le_trans (Nat.sub_le _ _) M.2.2.2.2.2.2.1) (lfM_of M.2.2.2.2.2.2.2.1 rfl rfl rfl) M.2.2.2.2.2.2.2.2.1 (fun _ _ z => z) M.2.2.2.2.2.2.2.2.2.2.1 M.2.2.2.2.2.2.2.2.2.2.2.1
/-! a node -/
set_option maxRecDepth 100000 in
theorem MK_d {k a c : Nat} (M : MK B n C0 C p b wb e s W) (h : s.2.2.2 = some (k + 1)) (h44 : C.1 76 44 = 1) (h43 : C.1 76 43 = nI a) (h4 : a + c + (k + 1) = 400) : MK B n C0 (sI C 76 42 (nI (c + 1))) p b wb e (s.1, s.2.1, s.2.2.1, some k) W :=
  MK_f (j := 42) (v := nI (c + 1)) (z := (s.1, s.2.1, s.2.2.1, some k)) (V := W) (e2 := e) M (by omega) rfl rfl M.2.2.2.2.2.1 M.2.2.2.2.2.2.1 ⟨h44, a, c + 1, h43, rfl, by omega⟩ M.2.2.2.2.2.2.2.2.1 (fun _ _ z => z) M.2.2.2.2.2.2.2.2.2.2.1 M.2.2.2.2.2.2.2.2.2.2.2.1
/-! off the stack -/
set_option maxRecDepth 100000 in
theorem MK_q {a : Int32} {v : Int64} (M : MK B n C0 C p b wb (e + 1) s (W ++ [(a, v)])) : MK B n C0 (sI C 76 52 (nI (wb + W.length))) p b wb e s W := by
  have hb := M.2.2.2.2.2.2.2.2.2.2.1
  have he := M.2.2.2.2.2.2.2.2.2.2.2.1
  rw [List.length_append, List.length_singleton] at hb
  exact MK_f (j := 52) (v := nI (wb + W.length)) (z := s) (V := W) (e2 := e) M (by omega) rfl rfl M.2.2.2.2.2.1 M.2.2.2.2.2.2.1 (lfM_of M.2.2.2.2.2.2.2.1 rfl rfl rfl) rfl (fun i q z => by
    have := (List.getElem?_eq_some_iff.mp z).1
    rw [List.getElem?_append_left this]
    exact z) (by omega) (by omega)
set_option maxRecDepth 100000 in
theorem MK_top {a : Int32} {v : Int64} (M : MK B n C0 C p b wb e s (W ++ [(a, v)])) : C.1 76 52 = nI (wb + W.length + 1) ∧ wb + W.length < 700 ∧ C.1 108 (wb + W.length) = a ∧ C.2.1 109 (wb + W.length) = v := by
  have hw := M.2.2.2.2.2.2.2.2.1
  have hW := M.2.2.2.2.2.2.2.2.2.1 W.length (a, v) (by rw [List.getElem?_append_right (Nat.le_refl _), Nat.sub_self]; rfl)
  have hb := M.2.2.2.2.2.2.2.2.2.2.1
  have he := M.2.2.2.2.2.2.2.2.2.2.2.1
  have hi := M.2.2.2.2.2.2.2.2.2.2.2.2.1
  rw [List.length_append, List.length_singleton] at hw hb
  exact ⟨by rw [hw, Nat.add_assoc], by omega, hW.1, hW.2⟩
set_option maxRecDepth 100000 in
theorem MK_u (M : MK B n C0 C p b wb e s W) : b + s.2.1.length < 619 := by
  have hb := M.2.2.2.2.2.2.2.2.2.2.1
  have he := M.2.2.2.2.2.2.2.2.2.2.2.1
  have hi := M.2.2.2.2.2.2.2.2.2.2.2.2.1
  omega
set_option maxRecDepth 100000 in
theorem MK_w (M : MK B n C0 C p b wb e s W) : wb + W.length < 700 := by
  have hb := M.2.2.2.2.2.2.2.2.2.2.1
  have he := M.2.2.2.2.2.2.2.2.2.2.2.1
  have hi := M.2.2.2.2.2.2.2.2.2.2.2.2.1
  omega
/-! a run that ends so -/
def PMK (B : Nat → Nat) (n : Nat) (C0 : co_T) (t : ab_H) (p b wb e : Nat) (v : Option Value) (z : fs_T) (W : List (Int32 × Int64)) : Option Value → ab_H → Nat → Prop := fun v' h k => v = v' ∧ (∃ C', MK B n C0 C' p b wb e z W ∧ MH C' t = h) ∧ 0 = k
set_option maxRecDepth 100000 in
theorem PM_i {C1 : co_T} {v : Option Value} (M : MK B n C0 C1 p b wb e s W) : PMK B n C0 t p b wb e v s W v (MH C1 t) 0 := ⟨rfl, ⟨C1, M, rfl⟩, rfl⟩
set_option maxRecDepth 100000 in
theorem nM (M : MK B n C0 C p b wb (e + 1) s W) (h : kd B n (s.1 + 1) ≠ 1) (h6 : s.1 < 600) : Wd L xs (d + 3) y_195 (0, [(0, .ref 176)], [], MH C t, 0) (PMK B n C0 t p b wb e none (nxt s) W) nX := Wd_r (m_195R M.1 M.2.1) (PM_i (MK_n M h h6))
set_option maxRecDepth 100000 in
theorem pM {a : Int32} {v : Int64} (M : MK B n C0 C p b wb e s W) (h : e < 12) : Wd L xs d y_224 (0, [(0, .ref 176), (1, .int a), (2, .long v)], [], MH C t, 0) (PMK B n C0 t p b wb (e + 1) none s (W ++ [(a, v)])) nX := Wd_r (m_224 M.2.2.2.2.2.2.2.2.1 (MK_w M)) (PM_i (MK_p M h))
set_option maxRecDepth 100000 in
theorem sM {a c : Int32} {w : Int32} {v : Int64} (M : MK B n C0 C p b wb e s W) (h : e < 12) (hq : eqO (a, c) w v) : Wd L xs d y_230 (0, [(0, .ref 176), (1, .int w), (2, .long v)], [], MH C t, 0) (PMK B n C0 t p b wb (e + 1) none (emt s a c) W) nX := Wd_r (m_230 M.2.2.1.1 M.2.2.1.2 M.2.2.2.1 (MK_u M)) (PM_i (MK_s M h hq))
set_option maxRecDepth 100000 in
theorem oM (M : MK B n C0 C p b wb e s W) (h : gin s = .inr y) : Wd L xs d y_225 (0, [(0, .ref 176)], [], MH C t, 0) (PMK B n C0 t p b wb e none y W) nX := by
  obtain ⟨rfl, hq⟩ := gin_s h
  exact Wd_r (m_225y M.2.2.2.2.2.1 hq) (PM_i (MK_o M hq))
set_option maxRecDepth 100000 in
theorem dM (M : MK B n C0 C p b wb e s W) (h : spd s = .inr y) : Wd L xs d y_226 (0, [(0, .ref 176)], [], MH C t, 0) (PMK B n C0 t p b wb e none y W) nX := by
  have hL := M.2.2.2.2.2.2.2.1
  unfold spd at h
  split at h
  · rename_i hl
    cases h
    rw [hl] at hL
    exact Wd_r (m_226n hL) (PM_i M)
  · cases h
  · rename_i k hl
    cases h
    rw [hl] at hL
    obtain ⟨h44, a, c, h43, h42, h4⟩ := hL
    exact Wd_r (m_226y h44 h42 h43 (by omega)) (PM_i (MK_d M hl h44 h43 h4))
/-! what waits is done -/
set_option maxRecDepth 100000 in
theorem wM3 {v : Int64} (M : MK B n C0 C p b wb (e + 1) s (W ++ [(3, v)])) (h : 1 ≤ s.2.2.1) : Wd L xs (d + 1) y_234 (0, [(0, .ref 176)], [], MH C t, 0) (PMK B n C0 t p b wb (e + 1) none (gou (emt s 5 0)) W) nX := by
  have ht := MK_top M
  have M1 := MK_c (MK_q M)
  have he := M.2.2.2.2.2.2.2.2.2.2.2.1
  have M2 := MK_s (a := 5) (c := 0) (w := 6) (v := 0) M1 (by omega) (Or.inr (Or.inr (Or.inr (Or.inr (Or.inr (Or.inl ⟨rfl, rfl⟩))))))
  exact Wd_r (m_234_3 (q := s.2.2.1 - 1) (by rw [M.2.2.2.2.2.1]; congr 1; omega) ht.1 ht.2.1 M.2.2.1.1 M.2.2.1.2 M.2.2.2.1 (MK_u M) ht.2.2.1) (PM_i M2)
set_option maxRecDepth 100000 in
theorem wM4 {v : Int64} (M : MK B n C0 C p b wb (e + 1) s (W ++ [(4, v)])) (h : 1 ≤ s.2.2.1) : Wd L xs (d + 1) y_234 (0, [(0, .ref 176)], [], MH C t, 0) (PMK B n C0 t p b wb (e + 1) none (gou (emt s 6 0)) W) nX := by
  have ht := MK_top M
  have M1 := MK_c (MK_q M)
  have he := M.2.2.2.2.2.2.2.2.2.2.2.1
  have M2 := MK_s (a := 6) (c := 0) (w := 7) (v := 0) M1 (by omega) (Or.inr (Or.inr (Or.inr (Or.inr (Or.inr (Or.inr (Or.inl ⟨rfl, rfl⟩)))))))
  exact Wd_r (m_234_4 (q := s.2.2.1 - 1) (by rw [M.2.2.2.2.2.1]; congr 1; omega) ht.1 ht.2.1 M.2.2.1.1 M.2.2.1.2 M.2.2.2.1 (MK_u M) ht.2.2.1) (PM_i M2)
set_option maxRecDepth 100000 in
theorem wM8 {v : Int64} (M : MK B n C0 C p b wb (e + 1) s (W ++ [(8, v)])) : Wd L xs (d + 1) y_234 (0, [(0, .ref 176)], [], MH C t, 0) (PMK B n C0 t p b wb (e + 1) none (emt s 19 0) W) nX := by
  have ht := MK_top M
  have he := M.2.2.2.2.2.2.2.2.2.2.2.1
  have M2 := MK_s (a := 19) (c := 0) (w := 11) (v := 0) (MK_q M) (by omega) (Or.inr (Or.inr (Or.inr (Or.inr (Or.inr (Or.inr (Or.inr (Or.inr (Or.inr (Or.inl ⟨rfl, rfl⟩))))))))))
  exact Wd_r (m_234_8 ht.1 ht.2.1 M.2.2.1.1 M.2.2.1.2 M.2.2.2.1 (MK_u M) ht.2.2.1) (PM_i M2)
set_option maxRecDepth 100000 in
theorem wM9 {v : Int64} (M : MK B n C0 C p b wb (e + 1) s (W ++ [(9, v)])) : Wd L xs (d + 1) y_234 (0, [(0, .ref 176)], [], MH C t, 0) (PMK B n C0 t p b wb (e + 1) none (emt s 20 0) W) nX := by
  have ht := MK_top M
  have he := M.2.2.2.2.2.2.2.2.2.2.2.1
  have M2 := MK_s (a := 20) (c := 0) (w := 10) (v := 0) (MK_q M) (by omega) (Or.inr (Or.inr (Or.inr (Or.inr (Or.inr (Or.inr (Or.inr (Or.inr (Or.inr (Or.inr (Or.inl ⟨rfl, rfl⟩)))))))))))
  exact Wd_r (m_234_9 ht.1 ht.2.1 M.2.2.1.1 M.2.2.1.2 M.2.2.2.1 (MK_u M) ht.2.2.1) (PM_i M2)
set_option maxRecDepth 100000 in
theorem wM5 {v : Int64} {a : Int32} (M : MK B n C0 C p b wb (e + 1) s (W ++ [(5, v)])) (hs : sgO a v) : Wd L xs (d + 1) y_234 (0, [(0, .ref 176)], [], MH C t, 0) (PMK B n C0 t p b wb (e + 1) none (emt s a 0) W) nX := by
  have ht := MK_top M
  have he := M.2.2.2.2.2.2.2.2.2.2.2.1
  have M2 := MK_s (a := a) (c := 0) (w := 12) (v := v) (MK_q M) (by omega) (Or.inr (Or.inr (Or.inr (Or.inr (Or.inr (Or.inr (Or.inr (Or.inr (Or.inr (Or.inr (Or.inr ⟨rfl, hs⟩)))))))))))
  have g := m_234_5 (L := L) (xs := xs) (t := t) (d := d) (sl := 0) ht.1 ht.2.1 M.2.2.1.1 M.2.2.1.2 M.2.2.2.1 (MK_u M) ht.2.2.1
  rw [ht.2.2.2] at g
  exact Wd_r g (PM_i M2)
set_option maxRecDepth 100000 in
theorem wM6 {v : Int64} {a : Int32} (M : MK B n C0 C p b wb (e + 1) s (W ++ [(6, v)])) (hs : sgO a v) : Wd L xs (d + 1) y_234 (0, [(0, .ref 176)], [], MH C t, 0) (PMK B n C0 t p b wb (e + 1) none (emt s a 0) W) nX := by
  have ht := MK_top M
  have he := M.2.2.2.2.2.2.2.2.2.2.2.1
  have M2 := MK_s (a := a) (c := 0) (w := 12) (v := v) (MK_q M) (by omega) (Or.inr (Or.inr (Or.inr (Or.inr (Or.inr (Or.inr (Or.inr (Or.inr (Or.inr (Or.inr (Or.inr ⟨rfl, hs⟩)))))))))))
  have g := m_234_6 (L := L) (xs := xs) (t := t) (d := d) (sl := 0) ht.1 ht.2.1 M.2.2.1.1 M.2.2.1.2 M.2.2.2.1 (MK_u M) ht.2.2.1
  rw [ht.2.2.2] at g
  exact Wd_r g (PM_i M2)
end MPR
