/-! THE OTHER SIDE behind a fault: it goes on a little, and the fault stands -/
section MFA
variable {L : Nat} {xs : Nat → Int32} {t : ab_H} {d n p b wb f : Nat} {B : Nat → Nat} {C0 C : co_T} {c : Int32} {i : Nat}
set_option maxRecDepth 100000 in
theorem nx_any {a : Nat} (hB : ∀ j, j < n → B j < 256) (ha : a ≤ n) (hf : C.1 76 8 ≠ 0) : (nxM B n C a).1 76 8 = C.1 76 8 ∧ (nxM B n C a).1 76 9 = C.1 76 9 ∧ (nxM B n C a).1 76 5 = nI a ∧ ∃ z, (nxM B n C a).1 76 6 = nI z ∧ z ≤ n ∧ (a < z ∨ z = n) := by
  have gM : ∀ {k : Nat} {v : Int64} {z : Nat}, rgM C (nxM B n C a) k v a z → z ≤ n → (a < z ∨ z = n) → (nxM B n C a).1 76 8 = C.1 76 8 ∧ (nxM B n C a).1 76 9 = C.1 76 9 ∧ (nxM B n C a).1 76 5 = nI a ∧ ∃ z, (nxM B n C a).1 76 6 = nI z ∧ z ≤ n ∧ (a < z ∨ z = n) := fun g h1 h2 => ⟨g.2.2.2.2.1, g.2.2.2.2.2, g.2.2.1, _, g.2.2.2.1, h1, h2⟩
  have gB : rgB C (nxM B n C a) n a → (nxM B n C a).1 76 8 = C.1 76 8 ∧ (nxM B n C a).1 76 9 = C.1 76 9 ∧ (nxM B n C a).1 76 5 = nI a ∧ ∃ z, (nxM B n C a).1 76 6 = nI z ∧ z ≤ n ∧ (a < z ∨ z = n) := fun g => by
    obtain ⟨z, h1, h2, h3⟩ := g.2.1
    exact ⟨(g.2.2.2 hf).1, (g.2.2.2 hf).2, g.1, z, h1, h3, Or.inl h2⟩
  by_cases hn : n ≤ a
  · exact gM (nx_e hn ha) (by omega) (Or.inr (by omega))
  · have hlt : a < n := by omega
    have hle := tkE_le (B := B) hlt
    cases hl : isL (B a) with
    | true =>
      have h := nx_l (C := C) hB hlt hl
      by_cases h8 : tkE B n a - a ≤ 8
      · exact gM (h.2 h8).2 hle.2 (Or.inl hle.1)
      · exact gB (h.1 (by omega))
    | false =>
      cases hF : isF (B a) with
      | true =>
        have h := nx_f (C := C) hlt hl hF
        by_cases h9 : tkE B n a - a ≤ 9
        · exact gM (h.2 h9) hle.2 (Or.inl hle.1)
        · exact gB (h.1 (by omega))
      | false =>
        have h := nx_s (C := C) hB hlt hl hF
        by_cases h3 : spt (ltV B (tkE B n a - a) a 0) 59 0 = 3
        · exact gB (h.1 (Or.inl h3))
        · by_cases h1 : spt (ltV B (tkE B n a - a) a 0) 59 0 = 1
          · exact gB (h.1 (Or.inr h1))
          · exact gM (h.2 h3 h1) hle.2 (Or.inl hle.1)
def ndM (C : co_T) (f : Nat) : Prop := C.1 76 44 = 0 ∨ (C.1 76 44 = 1 ∧ ∃ a k, C.1 76 43 = nI a ∧ C.1 76 42 = nI k ∧ a + k ≤ 400 + f)
set_option maxRecDepth 100000 in
theorem ndM_of {C' : co_T} {g : Nat} (h : ndM C f) (hg : f ≤ g) (h1 : C'.1 76 44 = C.1 76 44) (h2 : C'.1 76 43 = C.1 76 43) (h3 : C'.1 76 42 = C.1 76 42) : ndM C' g := by
  rcases h with h | ⟨h, a, k, e1, e2, e3⟩
  · exact Or.inl (h1.trans h)
  · exact Or.inr ⟨h1.trans h, a, k, h2.trans e1, h3.trans e2, by omega⟩
set_option maxRecDepth 100000 in
theorem ndM_l {o : Option Nat} (h : lfM C o) : ndM C 0 := by
  cases o with
  | none => exact Or.inl h
  | some k =>
    obtain ⟨g1, a, x, g2, g3, g4⟩ := h
    exact Or.inr ⟨g1, a, x, g2, g3, by omega⟩
/-! a fault (c, i); f: how many steps and pushes behind it -/
def FM (B : Nat → Nat) (n : Nat) (C0 C : co_T) (p b wb f : Nat) (c : Int32) (i : Nat) : Prop := faT B n C c i ∧ tpM C B n ∧ (C.1 76 40 = nI p ∧ p ≤ 40) ∧ (∃ u, C.1 76 41 = nI u ∧ b ≤ u ∧ u ≤ 612 + f) ∧ (∃ w, C.1 76 52 = nI w ∧ wb ≤ w ∧ w ≤ 612 + f) ∧ (∃ z a, C.1 76 6 = nI z ∧ z ≤ n ∧ (tkA B n i < z ∨ z = n) ∧ C.1 76 5 = nI a ∧ tkA B n i ≤ a ∧ a ≤ n) ∧ ndM C f ∧ frG p b wb C0 C
set_option maxRecDepth 100000 in
theorem FM_u {g : Nat} (F : FM B n C0 C p b wb f c i) (h : f ≤ g) : FM B n C0 C p b wb g c i := by
  obtain ⟨h1, h2, h3, ⟨u, h4, h5, h6⟩, ⟨w, h7, h8, h9⟩, h10, hd, h11⟩ := F
  exact ⟨h1, h2, h3, ⟨u, h4, h5, by omega⟩, ⟨w, h7, h8, by omega⟩, h10, ndM_of hd h rfl rfl rfl, h11⟩
/-! a fault comes up -/
set_option maxRecDepth 100000 in
theorem tkZ_n (i : Nat) : tkA B n i < tkZ B n i ∨ tkZ B n i = n := by
  unfold tkZ tkZ1
  by_cases h : tkA B n i < n
  · rw [if_pos h]
    exact Or.inl (tkE_le h).1
  · rw [if_neg h]
    have := tkA_le (B := B) (n := n) i
    omega
set_option maxRecDepth 100000 in
theorem FM_of (T : tpM C B n) (R : rgT B n C i) (hp : C.1 76 40 = nI p ∧ p ≤ 40) (hu : ∃ u, C.1 76 41 = nI u ∧ b ≤ u ∧ u ≤ 612) (hw : ∃ w, C.1 76 52 = nI w ∧ wb ≤ w ∧ w ≤ 612) (hd : ndM C f) (hf : frG p b wb C0 C) (hc : c ≠ 0) : FM B n C0 (fl_ C c (C.1 76 5)) p b wb f c i := by
  obtain ⟨u, hu, hu2⟩ := hu
  obtain ⟨w, hw, hw2⟩ := hw
  exact ⟨fl_new R hc, tpM_of T (flt_1 (by omega)) (fun j => flt_1 (by omega)), ⟨(flt_1 (by omega)).trans hp.1, hp.2⟩, ⟨u, (flt_1 (by omega)).trans hu, hu2.1, by omega⟩, ⟨w, (flt_1 (by omega)).trans hw, hw2.1, by omega⟩, ⟨tkZ B n i, tkA B n i, (flt_1 (by omega)).trans R.2.2.2.2.2, (tkZ_le i).2, tkZ_n i, (flt_1 (by omega)).trans R.2.2.2.2.1, Nat.le_refl _, tkA_le _⟩, ndM_of hd (Nat.le_refl _) (flt_1 (by omega)) (flt_1 (by omega)) (flt_1 (by omega)), frG_t hf (frG_T frT_f)⟩
set_option maxRecDepth 100000 in
theorem FM_new {e : Nat} {s : fs_T} {W : List (Int32 × Int64)} (M : MK B n C0 C p b wb e s W) (hc : c ≠ 0) : FM B n C0 (fl_ C c (C.1 76 5)) p b wb 0 c s.1 := by
  obtain ⟨T, R, hp, hu, ho, hq, h10, hL, hw, hW, hb, he, hi, hf⟩ := M
  exact FM_of T R hp ⟨_, hu, Nat.le_add_right _ _, by omega⟩ ⟨_, hw, Nat.le_add_right _ _, by omega⟩ (ndM_l hL) hf hc
/-! behind it: the step to the next token -/
def PFM (B : Nat → Nat) (n : Nat) (C0 : co_T) (t : ab_H) (p b wb f : Nat) (c : Int32) (i : Nat) : Option Value → ab_H → Nat → Prop := fun v h k => none = v ∧ (∃ C', FM B n C0 C' p b wb f c i ∧ MH C' t = h) ∧ 0 = k
set_option maxRecDepth 100000 in
theorem nF (F : FM B n C0 C p b wb f c i) : Wd L xs (d + 3) y_195 (0, [(0, .ref 176)], [], MH C t, 0) (PFM B n C0 t p b wb f c i) nX := by
  obtain ⟨h1, T, h3, h4, h5, ⟨z, a, hz, hzn, hza, ha, haa, han⟩, hd, hf⟩ := F
  have h0 : C.1 76 8 ≠ 0 := by rw [h1.2.1]; exact h1.1
  have hO : flO C n z := fun _ => ⟨tkA B n i, h1.2.2, tkA_le i, hza⟩
  refine Wd_r (m_195 T hz hzn hO) ⟨rfl, ⟨_, ?_, rfl⟩, rfl⟩
  have hb := blk_le (B := B) hzn
  have g := nx_any (C := C) (B := B) (fun j hj => (T.2.2 j hj).1) hb.2 h0
  have fr := frT_nx (C := C) (B := B) (n := n) (a := blk B n z)
  obtain ⟨z2, g4, g5, g6⟩ := g.2.2.2
  obtain ⟨u, hu, hu2⟩ := h4
  obtain ⟨w, hw, hw2⟩ := h5
  have hi := tkA_le (B := B) (n := n) i
  refine ⟨⟨h1.1, g.1.trans h1.2.1, g.2.1.trans h1.2.2⟩, tpM_of T (fr.1 76 2 (by omega)) (fun j => fr.1 77 j (by omega)), ⟨(fr.1 76 40 (by omega)).trans h3.1, h3.2⟩, ⟨u, (fr.1 76 41 (by omega)).trans hu, hu2⟩, ⟨w, (fr.1 76 52 (by omega)).trans hw, hw2⟩, ⟨z2, blk B n z, g4, g5, ?_, g.2.2.1, ?_, hb.2⟩, ndM_of hd (Nat.le_refl _) (fr.1 76 44 (by omega)) (fr.1 76 43 (by omega)) (fr.1 76 42 (by omega)), frG_t hf (frG_T fr)⟩
  · omega
  · omega
/-! behind it: an operation, a push, a node -/
set_option maxRecDepth 100000 in
theorem sF {w : Int32} {v : Int64} (F : FM B n C0 C p b wb f c i) (h : f < 6) : Wd L xs d y_230 (0, [(0, .ref 176), (1, .int w), (2, .long v)], [], MH C t, 0) (PFM B n C0 t p b wb (f + 1) c i) nX := by
  obtain ⟨h1, T, h3, ⟨u, hu, hu2, hu3⟩, ⟨x, hx, hx2, hx3⟩, ⟨z, a, hz, hzn, hza, ha, haa, han⟩, hd, hf⟩ := F
  refine Wd_r (m_230 h3.1 h3.2 hu (by omega)) ⟨rfl, ⟨_, ?_, rfl⟩, rfl⟩
  have e1 : ∀ k j, ¬ (k = 76 ∧ j = 41) → k ≠ 106 → (stC C p u w v).1 k j = C.1 k j := by
    intro k j g1 g2
    unfold stC
    rw [sI_1, if_neg (by omega), sJ_1, sI_1, if_neg (by omega)]
  exact ⟨⟨h1.1, (e1 76 8 (by omega) (by omega)).trans h1.2.1, (e1 76 9 (by omega) (by omega)).trans h1.2.2⟩, tpM_of T (e1 76 2 (by omega) (by omega)) (fun j => e1 77 j (by omega) (by omega)), ⟨(e1 76 40 (by omega) (by omega)).trans h3.1, h3.2⟩, ⟨u + 1, rfl, by omega, by omega⟩, ⟨x, (e1 76 52 (by omega) (by omega)).trans hx, hx2, by omega⟩, ⟨z, a, (e1 76 6 (by omega) (by omega)).trans hz, hzn, hza, (e1 76 5 (by omega) (by omega)).trans ha, haa, han⟩, ndM_of hd (by omega) (e1 76 44 (by omega) (by omega)) (e1 76 43 (by omega) (by omega)) (e1 76 42 (by omega) (by omega)), frG_t hf (frG_s hu2 (by omega))⟩
set_option maxRecDepth 100000 in
theorem pF {w : Int32} {v : Int64} (F : FM B n C0 C p b wb f c i) (h : f < 6) : Wd L xs d y_224 (0, [(0, .ref 176), (1, .int w), (2, .long v)], [], MH C t, 0) (PFM B n C0 t p b wb (f + 1) c i) nX := by
  obtain ⟨h1, T, h3, ⟨u, hu, hu2, hu3⟩, ⟨x, hx, hx2, hx3⟩, ⟨z, a, hz, hzn, hza, ha, haa, han⟩, hd, hf⟩ := F
  refine Wd_r (m_224 hx (by omega)) ⟨rfl, ⟨_, ?_, rfl⟩, rfl⟩
  have e1 : ∀ k j, ¬ (k = 76 ∧ j = 52) → k ≠ 108 → (psC C x w v).1 k j = C.1 k j := by
    intro k j g1 g2
    unfold psC
    rw [sI_1, if_neg (by omega), sJ_1, sI_1, if_neg (by omega)]
  exact ⟨⟨h1.1, (e1 76 8 (by omega) (by omega)).trans h1.2.1, (e1 76 9 (by omega) (by omega)).trans h1.2.2⟩, tpM_of T (e1 76 2 (by omega) (by omega)) (fun j => e1 77 j (by omega) (by omega)), ⟨(e1 76 40 (by omega) (by omega)).trans h3.1, h3.2⟩, ⟨u, (e1 76 41 (by omega) (by omega)).trans hu, hu2, by omega⟩, ⟨x + 1, rfl, by omega, by omega⟩, ⟨z, a, (e1 76 6 (by omega) (by omega)).trans hz, hzn, hza, (e1 76 5 (by omega) (by omega)).trans ha, haa, han⟩, ndM_of hd (by omega) (e1 76 44 (by omega) (by omega)) (e1 76 43 (by omega) (by omega)) (e1 76 42 (by omega) (by omega)), frG_t hf (frG_p hx2)⟩
set_option maxRecDepth 100000 in
theorem FM_or (F : FM B n C0 C p b wb f c i) (h6 : c.toInt ≤ 6) (hn : n ≤ 600) : orL C 6 (C.1 76 5) := by
  obtain ⟨h1, T, h3, h4, h5, ⟨z, a, hz, hzn, hza, ha, haa, han⟩, hd, hf⟩ := F
  intro _
  have hi := tkA_le (B := B) (n := n) i
  rw [h1.2.2, ha, h1.2.1]
  by_cases e : tkA B n i = a
  · refine Or.inr ⟨by rw [e], ?_⟩
    show c.toInt ≤ 6
    exact h6
  · refine Or.inl ?_
    rw [nK_int (by omega), nK_int (by omega)]
    omega
set_option maxRecDepth 100000 in
theorem dF (F : FM B n C0 C p b wb f c i) (h6 : c.toInt ≤ 6) (h : f < 6) : Wd L xs (d + 2) y_226 (0, [(0, .ref 176)], [], MH C t, 0) (PFM B n C0 t p b wb (f + 1) c i) nX := by
  have hor := FM_or F h6 F.2.1.2.1
  have F0 := F
  obtain ⟨h1, T, h3, ⟨u, hu, hu2, hu3⟩, ⟨x, hx, hx2, hx3⟩, ⟨z, a, hz, hzn, hza, ha, haa, han⟩, hd, hf⟩ := F
  rcases hd with h0 | ⟨h44, y, k, h43, h42, hk⟩
  · exact Wd_up (Nat.le_add_left 0 _) (Wd_r (m_226n (d := 0) h0) ⟨rfl, ⟨_, FM_u F0 (by omega), rfl⟩, rfl⟩)
  · have e1 : ∀ q j, ¬ (q = 76 ∧ j = 42) → (sI C 76 42 (nI (k + 1))).1 q j = C.1 q j := fun q j g => by rw [sI_1, if_neg g]
    have G : FM B n C0 (sI C 76 42 (nI (k + 1))) p b wb (f + 1) c i := ⟨⟨h1.1, (e1 76 8 (by omega)).trans h1.2.1, (e1 76 9 (by omega)).trans h1.2.2⟩, tpM_of T (e1 76 2 (by omega)) (fun j => e1 77 j (by omega)), ⟨(e1 76 40 (by omega)).trans h3.1, h3.2⟩, ⟨u, (e1 76 41 (by omega)).trans hu, hu2, by omega⟩, ⟨x, (e1 76 52 (by omega)).trans hx, hx2, by omega⟩, ⟨z, a, (e1 76 6 (by omega)).trans hz, hzn, hza, (e1 76 5 (by omega)).trans ha, haa, han⟩, Or.inr ⟨(e1 76 44 (by omega)).trans h44, y, k + 1, (e1 76 43 (by omega)).trans h43, rfl, by omega⟩, frG_t hf (frG_I (by omega))⟩
    by_cases h400 : y + k < 400
    · exact Wd_up (Nat.le_add_left 0 _) (Wd_r (m_226y (d := 0) h44 h42 h43 h400) ⟨rfl, ⟨_, G, rfl⟩, rfl⟩)
    · have e9 : fl_ (sI C 76 42 (nI (k + 1))) 6 (C.1 76 5) = sI C 76 42 (nI (k + 1)) := by
        unfold fl_
        rw [if_neg]
        intro z0
        rw [e1 76 8 (by omega), h1.2.1] at z0
        exact h1.1 z0
      have g := m_226f (L := L) (xs := xs) (t := t) (d := d) (sl := 0) h44 h42 h43 (by omega) (by omega) hor
      rw [e9] at g
      exact Wd_r g ⟨rfl, ⟨_, G, rfl⟩, rfl⟩
/-! a fault comes up in a small step -/
set_option maxRecDepth 100000 in
theorem oE {e : Nat} {s : fs_T} {W : List (Int32 × Int64)} (M : MK B n C0 C p b wb e s W) (h : gin s = .inl (c, i)) : Wd L xs (d + 2) y_225 (0, [(0, .ref 176)], [], MH C t, 0) (PFM B n C0 t p b wb 0 c i) nX := by
  unfold gin at h
  split at h
  · rename_i hq10
    cases h
    obtain ⟨T, R, hp, hu, ho, hq, h10, hL, hw, hW, hb, he, hi, hf⟩ := M
    have e1 : ∀ q j, ¬ (q = 76 ∧ j = 45) → (sI C 76 45 (nI (s.2.2.1 + 1))).1 q j = C.1 q j := fun q j g => by rw [sI_1, if_neg g]
    refine Wd_r (m_225n hq hq10 (by omega) (fun z => absurd R.2.1 z)) ⟨rfl, ⟨_, ?_, rfl⟩, rfl⟩
    exact FM_of (C := sI C 76 45 (nI (s.2.2.1 + 1))) (tpM_of T (e1 76 2 (by omega)) (fun j => e1 77 j (by omega))) ⟨R.1, (e1 76 8 (by omega)).trans R.2.1, (e1 76 4 (by omega)).trans R.2.2.1, R.2.2.2.1, (e1 76 5 (by omega)).trans R.2.2.2.2.1, (e1 76 6 (by omega)).trans R.2.2.2.2.2⟩ ⟨(e1 76 40 (by omega)).trans hp.1, hp.2⟩ ⟨_, (e1 76 41 (by omega)).trans hu, Nat.le_add_right _ _, by omega⟩ ⟨_, (e1 76 52 (by omega)).trans hw, Nat.le_add_right _ _, by omega⟩ (ndM_of (ndM_l hL) (Nat.le_refl _) (e1 76 44 (by omega)) (e1 76 43 (by omega)) (e1 76 42 (by omega))) (frG_t hf (frG_I (by omega))) (by decide)
  · cases h
set_option maxRecDepth 100000 in
theorem dE {e : Nat} {s : fs_T} {W : List (Int32 × Int64)} (M : MK B n C0 C p b wb e s W) (h : spd s = .inl (c, i)) : Wd L xs (d + 2) y_226 (0, [(0, .ref 176)], [], MH C t, 0) (PFM B n C0 t p b wb 1 c i) nX := by
  unfold spd at h
  split at h
  · cases h
  · rename_i hl
    cases h
    obtain ⟨T, R, hp, hu, ho, hq, h10, hL, hw, hW, hb, he, hi, hf⟩ := M
    rw [hl] at hL
    obtain ⟨h44, y, k, h43, h42, hk⟩ := hL
    have e1 : ∀ q j, ¬ (q = 76 ∧ j = 42) → (sI C 76 42 (nI (k + 1))).1 q j = C.1 q j := fun q j g => by rw [sI_1, if_neg g]
    refine Wd_r (m_226f h44 h42 h43 (by omega) (by omega) (fun z => absurd R.2.1 z)) ⟨rfl, ⟨_, ?_, rfl⟩, rfl⟩
    exact FM_of (C := sI C 76 42 (nI (k + 1))) (tpM_of T (e1 76 2 (by omega)) (fun j => e1 77 j (by omega))) ⟨R.1, (e1 76 8 (by omega)).trans R.2.1, (e1 76 4 (by omega)).trans R.2.2.1, R.2.2.2.1, (e1 76 5 (by omega)).trans R.2.2.2.2.1, (e1 76 6 (by omega)).trans R.2.2.2.2.2⟩ ⟨(e1 76 40 (by omega)).trans hp.1, hp.2⟩ ⟨_, (e1 76 41 (by omega)).trans hu, Nat.le_add_right _ _, by omega⟩ ⟨_, (e1 76 52 (by omega)).trans hw, Nat.le_add_right _ _, by omega⟩ (Or.inr ⟨(e1 76 44 (by omega)).trans h44, y, k + 1, (e1 76 43 (by omega)).trans h43, rfl, by omega⟩) (frG_t hf (frG_I (by omega))) (by decide)
  · cases h
end MFA
