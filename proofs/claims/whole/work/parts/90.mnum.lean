/-! THE OTHER SIDE'S FORMULAS, 5: the step, whatever comes; numbers fit an int -/
section MNU
variable {L : Nat} {xs : Nat → Int32} {t : ab_H} {d n p b wb e f : Nat} {B : Nat → Nat} {C0 C : co_T} {s : fs_T} {W : List (Int32 × Int64)} {i : Nat}
/-! the state z is reached, or its token is bad, and that is the fault -/
def QM (B : Nat → Nat) (n : Nat) (C0 : co_T) (t : ab_H) (p b wb e : Nat) (v : Option Value) (z : fs_T) (W : List (Int32 × Int64)) : Option Value → ab_H → Nat → Prop := fun v' h k => v = v' ∧ (∃ C', ((kd B n z.1 ≠ 1 ∧ MK B n C0 C' p b wb e z W) ∨ (kd B n z.1 = 1 ∧ FM B n C0 C' p b wb 0 1 z.1)) ∧ MH C' t = h) ∧ 0 = k
set_option maxRecDepth 100000 in
theorem FM_bad (M : MK B n C0 C p b wb e s W) (h : kd B n (s.1 + 1) = 1) : FM B n C0 (nxR B n C s.1) p b wb 0 1 (s.1 + 1) := by
  obtain ⟨T, R, hp, hu, ho, hq, h10, hL, hw, hW, hb, he, hi, hf⟩ := M
  have fr := nxR_fr (C := C) (B := B) (n := n) (i := s.1)
  have g := (nx_tok (C := C) (B := B) (n := n) (i := s.1 + 1) (fun j hj => (T.2.2 j hj).1)).1 h
  obtain ⟨z, g1, g2, g3⟩ := g.2.1
  exact ⟨nxR_bad T R h, tpM_of T (fr.1 76 2 (by omega)) (fun j => fr.1 77 j (by omega)), ⟨(fr.1 76 40 (by omega)).trans hp.1, hp.2⟩, ⟨_, (fr.1 76 41 (by omega)).trans hu, Nat.le_add_right _ _, by omega⟩, ⟨_, (fr.1 76 52 (by omega)).trans hw, Nat.le_add_right _ _, by omega⟩, ⟨z, tkA B n (s.1 + 1), g1, g3, Or.inl g2, g.1, Nat.le_refl _, tkA_le _⟩, ndM_of (ndM_l hL) (Nat.le_refl _) (fr.1 76 44 (by omega)) (fr.1 76 43 (by omega)) (fr.1 76 42 (by omega)), frG_t hf (frG_T fr)⟩
set_option maxRecDepth 100000 in
theorem nA (M : MK B n C0 C p b wb (e + 1) s W) (h6 : s.1 < 600) : Wd L xs (d + 3) y_195 (0, [(0, .ref 176)], [], MH C t, 0) (QM B n C0 t p b wb e none (nxt s) W) nX := by
  by_cases h : kd B n (s.1 + 1) = 1
  · exact Wd_r (m_195R M.1 M.2.1) ⟨rfl, ⟨_, Or.inr ⟨h, FM_bad M h⟩, rfl⟩, rfl⟩
  · exact Wd_r (m_195R M.1 M.2.1) ⟨rfl, ⟨_, Or.inl ⟨h, MK_n M h h6⟩, rfl⟩, rfl⟩
/-! numbers -/
def dgN (B : Nat → Nat) : Nat → Nat → Nat → Nat
  | 0, _, v => v
  | k + 1, q, v => dgN B k (q + 1) (v * 10 + (B q - 48))
set_option maxRecDepth 100000 in
theorem dg1 {v : Int64} {N c : Nat} (hv : v.toInt = N) (hN : N < 1000000000) (hc : 48 ≤ c) (hc2 : c ≤ 57) : (v * 10 + (sb c).toInt64 - 48).toInt = (N * 10 + (c - 48) : Nat) := by
  have h1 : (sb c).toInt64.toInt = c := by rw [i64, sb_int (by omega), if_pos (by omega)]
  have h2 : (v * 10).toInt = N * 10 := by
    rw [Int64.toInt_mul, hv]
    have : (10 : Int64).toInt = 10 := rfl
    rw [this]
    exact Int.bmod_eq_of_le (by omega) (by omega)
  have h3 : (v * 10 + (sb c).toInt64).toInt = N * 10 + c := by
    rw [Int64.toInt_add, h2, h1]
    exact Int.bmod_eq_of_le (by omega) (by omega)
  rw [Int64.toInt_sub, h3]
  have : (48 : Int64).toInt = 48 := rfl
  rw [this, Int.bmod_eq_of_le (by omega) (by omega)]
  omega
set_option maxRecDepth 100000 in
theorem dgV_int : ∀ (k q : Nat) (v : Int64) (N j : Nat), v.toInt = N → N < 10 ^ j → j + k ≤ 9 → (∀ x, q ≤ x → x < q + k → 48 ≤ B x ∧ B x ≤ 57) → (dgV B k q v).toInt = dgN B k q N ∧ dgN B k q N < 10 ^ (j + k)
  | 0, _, _, _, _, hv, hN, _, _ => ⟨hv, hN⟩
  | k + 1, q, v, N, j, hv, hN, hj, hB => by
    have h9 : N < 1000000000 := Nat.lt_of_lt_of_le hN (Nat.pow_le_pow_right (by decide) (show j ≤ 9 by omega))
    have hb := hB q (Nat.le_refl _) (by omega)
    have g := dgV_int k (q + 1) (v * 10 + (sb (B q)).toInt64 - 48) (N * 10 + (B q - 48)) (j + 1) (dg1 hv h9 hb.1 hb.2) (by rw [Nat.pow_succ]; omega) (by omega) (fun x h1 h2 => hB x (by omega) (by omega))
    rw [show j + 1 + k = j + (k + 1) by omega] at g
    exact g
set_option maxRecDepth 100000 in
theorem fit32 {v : Int64} {N : Nat} (h : v.toInt = N) (hN : N < 1000000000) : v = v.toInt32.toInt64 := by
  apply Int64.toInt_inj.mp
  rw [i64, Int64.toInt_toInt32, h]
  exact (Int.bmod_eq_of_le (by omega) (by omega)).symm
set_option maxRecDepth 100000 in
theorem adv_all {q : Nat → Bool} : ∀ (k a j : Nat), a ≤ j → j < adv q k a → q j = true
  | 0, a, j, h1, h2 => by
    rw [adv] at h2
    omega
  | k + 1, a, j, h1, h2 => by
    rw [adv] at h2
    cases hp : q a with
    | false =>
      rw [hp, cond_false] at h2
      omega
    | true =>
      rw [hp, cond_true] at h2
      by_cases e : j = a
      · rw [e]
        exact hp
      · exact adv_all k (a + 1) j (by omega) h2
set_option maxRecDepth 100000 in
theorem num_fit (h : kd B n i = 4) : vl B n i = (vl B n i).toInt32.toInt64 := by
  have hlt : tkA B n i < n := kd_end (by rw [h]; decide)
  have hz : tkZ B n i = tkE B n (tkA B n i) := by unfold tkZ tkZ1; rw [if_pos hlt]
  have hle := tkE_le (B := B) hlt
  have hs := spt_get (v := vl B n i) 59 0
  cases hF : atF B n (tkA B n i) with
  | false =>
    exfalso
    have hk := h
    unfold kd tkK at hk
    rw [if_neg (by omega), hF, cond_false] at hk
    have h4 : spt (vl B n i) 59 0 = 4 := by
      cases hL : atL B n (tkA B n i) with
      | true =>
        rw [hL, cond_true] at hk
        split at hk
        · omega
        · exact hk
      | false =>
        rw [hL, cond_false] at hk
        split at hk
        · omega
        · exact hk
    have := hs (by rw [h4]; decide)
    rw [h4] at this
    have h0 : vl B n i = 0 := this.symm
    rw [h0] at h4
    exact absurd h4 (by decide)
  | true =>
    have hk := h
    unfold kd tkK at hk
    rw [if_neg (by omega), hF, cond_true, hz] at hk
    split at hk
    · omega
    · rename_i h9
      have hv : vl B n i = dgV B (tkE B n (tkA B n i) - tkA B n i) (tkA B n i) 0 := by unfold vl tkV; rw [hF, cond_true, hz]
      have hf1 : isF (B (tkA B n i)) = true := by
        rw [atF, Bool.and_eq_true] at hF
        exact hF.2
      have hl : isL (B (tkA B n i)) = false := by
        simp only [isF, Bool.and_eq_true, decide_eq_true_eq] at hf1
        simp only [isL, Bool.and_eq_false_iff, decide_eq_false_iff_not]
        omega
      have hE : tkE B n (tkA B n i) = adv (atF B n) (n - tkA B n i) (tkA B n i) := by
        rw [adv_1 hlt hF]
        unfold tkE
        rw [hl, hf1]
        rfl
      have g := dgV_int (B := B) (tkE B n (tkA B n i) - tkA B n i) (tkA B n i) 0 0 0 rfl (by decide) (by omega) (fun x h1 h2 => by
        have := adv_all (q := atF B n) (n - tkA B n i) (tkA B n i) x h1 (by rw [← hE]; omega)
        rw [atF, Bool.and_eq_true] at this
        have h3 := this.2
        simp only [isF, Bool.and_eq_true, decide_eq_true_eq] at h3
        exact h3)
      rw [hv]
      refine fit32 g.1 (Nat.lt_of_lt_of_le g.2 ?_)
      exact Nat.pow_le_pow_right (by decide) (show 0 + (tkE B n (tkA B n i) - tkA B n i) ≤ 9 by omega)
end MNU
