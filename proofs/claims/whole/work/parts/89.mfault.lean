/-! THE OTHER SIDE behind a fault: it goes on a little, and the fault stands -/
section MFA
variable {L : Nat} {xs : Nat → Int32} {t : ab_H} {d n p b wb f : Nat} {B : Nat → Nat} {C0 C : co_T} {c : Int32} {i : Nat}
set_option maxRecDepth 100000 in
theorem nx_any {a : Nat} (hB : ∀ j, j < n → B j < 256) (ha : a ≤ n) (hf : C.1 76 8 ≠ 0) : (nxM B n C a).1 76 8 = C.1 76 8 ∧ (nxM B n C a).1 76 9 = C.1 76 9 ∧ (nxM B n C a).1 76 5 = nI a ∧ ∃ z, (nxM B n C a).1 76 6 = nI z ∧ z ≤ n ∧ (a < z ∨ z = n) := by
  have gM : ∀ {k : Nat} {v : Int64} {z : Nat}, rgM C (nxM B n C a) k v a z → z ≤ n → (a < z ∨ z = n) → (nxM B n C a).1 76 8 = C.1 76 8 ∧ (nxM B n C a).1 76 9 = C.1 76 9 ∧ (nxM B n C a).1 76 5 = nI a ∧ ∃ z, (nxM B n C a).1 76 6 = nI z ∧ z ≤ n ∧ (a < z ∨ z = n) := fun g h1 h2 => ⟨g.2.2.2.2.1, g.2.2.2.2.2, g.2.2.1, _, g.2.2.2.1, h1, h2⟩
  have gB : rgB C (nxM B n C a) n a → (nxM B n C a).1 76 8 = C.1 76 8 ∧ (nxM B n C a).1 76 9 = C.1 76 9 ∧ (nxM B n C a).1 76 5 = nI a ∧ ∃ z, (nxM B n C a).1 76 6 = nI z ∧ z ≤ n ∧ (a < z ∨ z = n) := fun g => by
    obtain ⟨z, h1, h2, h3⟩ := g.2.1
    exact ⟨(g.2.2.2 hf).1, (g.2.2.2 hf).2, g.1, z, h1, h3, Or.inl h2⟩
  by_cases hn : n ≤ a
  · exact gM (nx_e hn ha) (by omega) (Or.inr (by omega))
  · have hlt : a < n := by omega
    have hle := tkE_le (B := B) hlt
    cases hl : isL (B a) with
    | true =>
      have h := nx_l (C := C) hB hlt hl
      by_cases h8 : tkE B n a - a ≤ 8
      · exact gM (h.2 h8).2 hle.2 (Or.inl hle.1)
      · exact gB (h.1 (by omega))
    | false =>
      cases hF : isF (B a) with
      | true =>
        have h := nx_f (C := C) hlt hl hF
        by_cases h9 : tkE B n a - a ≤ 9
        · exact gM (h.2 h9) hle.2 (Or.inl hle.1)
        · exact gB (h.1 (by omega))
      | false =>
        have h := nx_s (C := C) hB hlt hl hF
        by_cases h3 : spt (ltV B (tkE B n a - a) a 0) 59 0 = 3
        · exact gB (h.1 (Or.inl h3))
        · by_cases h1 : spt (ltV B (tkE B n a - a) a 0) 59 0 = 1
          · exact gB (h.1 (Or.inr h1))
          · exact gM (h.2 h3 h1) hle.2 (Or.inl hle.1)
/-! a fault (c, i); f: how many steps and pushes behind it -/
def FM (B : Nat → Nat) (n : Nat) (C0 C : co_T) (p b wb f : Nat) (c : Int32) (i : Nat) : Prop := faT B n C c i ∧ tpM C B n ∧ (C.1 76 40 = nI p ∧ p ≤ 40) ∧ (∃ u, C.1 76 41 = nI u ∧ b ≤ u ∧ u ≤ 612 + f) ∧ (∃ w, C.1 76 52 = nI w ∧ wb ≤ w ∧ w ≤ 612 + f) ∧ (∃ z a, C.1 76 6 = nI z ∧ z ≤ n ∧ (tkA B n i < z ∨ z = n) ∧ C.1 76 5 = nI a ∧ tkA B n i ≤ a ∧ a ≤ n) ∧ frG p b wb C0 C
set_option maxRecDepth 100000 in
theorem FM_u {g : Nat} (F : FM B n C0 C p b wb f c i) (h : f ≤ g) : FM B n C0 C p b wb g c i := by
  obtain ⟨h1, h2, h3, ⟨u, h4, h5, h6⟩, ⟨w, h7, h8, h9⟩, h10, h11⟩ := F
  exact ⟨h1, h2, h3, ⟨u, h4, h5, by omega⟩, ⟨w, h7, h8, by omega⟩, h10, h11⟩
/-! a fault comes up -/
set_option maxRecDepth 100000 in
theorem FM_new {e : Nat} {s : fs_T} {W : List (Int32 × Int64)} (M : MK B n C0 C p b wb e s W) (hc : c ≠ 0) : FM B n C0 (fl_ C c (C.1 76 5)) p b wb 0 c s.1 := by
  obtain ⟨T, R, hp, hu, ho, hq, h10, hL, hw, hW, hb, he, hi, hf⟩ := M
  have z := tkZ_le (B := B) (n := n) s.1
  refine ⟨fl_new R hc, tpM_of T (flt_1 (by omega)) (fun j => flt_1 (by omega)), ⟨(flt_1 (by omega)).trans hp.1, hp.2⟩, ⟨_, (flt_1 (by omega)).trans hu, Nat.le_add_right _ _, by omega⟩, ⟨_, (flt_1 (by omega)).trans hw, Nat.le_add_right _ _, by omega⟩, ⟨tkZ B n s.1, tkA B n s.1, (flt_1 (by omega)).trans R.2.2.2.2.2, z.2, ?_, (flt_1 (by omega)).trans R.2.2.2.2.1, Nat.le_refl _, tkA_le _⟩, frG_t hf (frG_T frT_f)⟩
  by_cases h2 : kd B n s.1 = 2
  · right
    have hn : n ≤ tkA B n s.1 := by
      by_cases a : n ≤ tkA B n s.1
      · exact a
      · exfalso
        have hk := (nm_k R).2.2.mpr h2
        have h5 : kd B n s.1 ≠ 2 := by
          intro _
          have hlt : tkA B n s.1 < n := by omega
          have hv := h2
          unfold kd tkK at hv
          rw [if_neg a] at hv
          have hs := spt_le (vl B n s.1) 59 0 rfl
          cases hF : atF B n (tkA B n s.1) with
          | true =>
            rw [hF, cond_true] at hv
            split at hv <;> omega
          | false =>
            rw [hF, cond_false] at hv
            have h3 : spt (vl B n s.1) 59 0 = 2 := by
              cases hL2 : atL B n (tkA B n s.1) with
              | true =>
                rw [hL2, cond_true] at hv
                split at hv
                · omega
                · exact hv
              | false =>
                rw [hL2, cond_false] at hv
                split at hv
                · omega
                · exact hv
            have h4 := spt_get (v := vl B n s.1) 59 0 (by rw [h3]; decide)
            rw [h3] at h4
            have h6 : vl B n s.1 = 0 := h4.symm
            rw [h6] at h3
            exact absurd h3 (by decide)
        exact h5 h2
    omega
  · left
    have hlt := kd_end h2
    have := tkE_le (B := B) hlt
    unfold tkZ tkZ1
    rw [if_pos hlt]
    exact this.1
/-! behind it: the step to the next token -/
set_option maxRecDepth 100000 in
theorem nF (F : FM B n C0 C p b wb f c i) : Wd L xs (d + 3) y_195 (0, [(0, .ref 176)], [], MH C t, 0) (fun v h k => none = v ∧ (∃ C', FM B n C0 C' p b wb f c i ∧ MH C' t = h) ∧ 0 = k) nX := by
  obtain ⟨h1, T, h3, h4, h5, ⟨z, a, hz, hzn, hza, ha, haa, han⟩, hf⟩ := F
  have h0 : C.1 76 8 ≠ 0 := by rw [h1.2.1]; exact h1.1
  have hO : flO C n z := fun _ => ⟨tkA B n i, h1.2.2, tkA_le i, hza⟩
  refine Wd_r (m_195 T hz hzn hO) ⟨rfl, ⟨_, ?_, rfl⟩, rfl⟩
  have hb := blk_le (B := B) hzn
  have g := nx_any (C := C) (B := B) (fun j hj => (T.2.2 j hj).1) hb.2 h0
  have fr := frT_nx (C := C) (B := B) (n := n) (a := blk B n z)
  obtain ⟨z2, g4, g5, g6⟩ := g.2.2.2
  obtain ⟨u, hu, hu2⟩ := h4
  obtain ⟨w, hw, hw2⟩ := h5
  have hi := tkA_le (B := B) (n := n) i
  refine ⟨⟨h1.1, g.1.trans h1.2.1, g.2.1.trans h1.2.2⟩, tpM_of T (fr.1 76 2 (by omega)) (fun j => fr.1 77 j (by omega)), ⟨(fr.1 76 40 (by omega)).trans h3.1, h3.2⟩, ⟨u, (fr.1 76 41 (by omega)).trans hu, hu2⟩, ⟨w, (fr.1 76 52 (by omega)).trans hw, hw2⟩, ⟨z2, blk B n z, g4, g5, ?_, g.2.2.1, ?_, hb.2⟩, frG_t hf (frG_T fr)⟩
  · omega
  · omega
end MFA
