/-! BOTH SIDES READ THE SAME TOKENS, 1: what letters and figures come to -/
section ALK
variable {B : Nat → Nat} {n : Nat}
set_option maxRecDepth 100000 in
theorem sb255 : ∀ b : Fin 256, sb b.1 &&& 255 = nI b.1 := by decide +kernel
set_option maxRecDepth 100000 in
theorem sb_255 {b : Nat} (h : b < 256) : sb b &&& 255 = nI b := sb255 ⟨b, h⟩
/-! letters, as one long -/
def nl (v : Int64) (b : Nat) : Int64 := (v <<< ((8 : Int32).toInt64 &&& 63)) ||| (nI b).toInt64
def ltN (B : Nat → Nat) : Nat → Nat → Int64 → Int64
  | 0, _, v => v
  | f + 1, p, v => ltN B f (p + 1) (nl v (B p))
set_option maxRecDepth 100000 in
theorem ltV_N : ∀ (f p : Nat) (v : Int64), (∀ i, p ≤ i → i < p + f → B i < 256) → ltV B f p v = ltN B f p v
  | 0, _, _, _ => rfl
  | f + 1, p, v, h => by
    rw [ltV, ltN, sb_255 (h p (Nat.le_refl _) (by omega))]
    exact ltV_N f (p + 1) _ (fun i h1 h2 => h i (by omega) (by omega))
set_option maxRecDepth 100000 in
theorem rlV_N {p : Nat} : ∀ (f k : Nat) (v : Int64), p ≤ k → adv (fun i => atL B n i || atF B n i) f k - p ≤ 8 → rlV B n p f k v = ltN B (adv (fun i => atL B n i || atF B n i) f k - k) k v
  | 0, k, v, _, _ => by
    rw [rlV, adv, Nat.sub_self]
    rfl
  | f + 1, k, v, hk, he => by
    rw [rlV]
    rw [adv] at he ⊢
    cases hq : (atL B n k || atF B n k) with
    | false =>
      simp only [cond_false, Nat.sub_self]
      rfl
    | true =>
      simp only [hq, cond_true] at he ⊢
      have h1 := adv_le (fun i => atL B n i || atF B n i) f (k + 1)
      rw [if_pos (by omega), rlV_N f (k + 1) _ (by omega) he]
      rw [show adv (fun i => atL B n i || atF B n i) f (k + 1) - k = (adv (fun i => atL B n i || atF B n i) f (k + 1) - (k + 1)) + 1 by omega]
      rfl
/-! figures -/
set_option maxRecDepth 100000 in
theorem dgV_N {p : Nat} : ∀ (f k : Nat) (v : Int64), p ≤ k → adv (atF B n) f k - p ≤ 9 → rfV B n p f k v = dgV B (adv (atF B n) f k - k) k v
  | 0, k, v, _, _ => by
    rw [rfV, adv, Nat.sub_self]
    rfl
  | f + 1, k, v, hk, he => by
    rw [rfV]
    rw [adv] at he ⊢
    cases hq : atF B n k with
    | false =>
      simp only [cond_false, Nat.sub_self]
      rfl
    | true =>
      simp only [hq, cond_true] at he ⊢
      have h1 := adv_le (atF B n) f (k + 1)
      have hb : B k < 128 := by
        simp only [atF, isF, Bool.and_eq_true, decide_eq_true_eq] at hq
        omega
      rw [if_pos (by omega), dgV_N f (k + 1) _ (by omega) he]
      rw [show adv (atF B n) f (k + 1) - k = (adv (atF B n) f (k + 1) - (k + 1)) + 1 by omega, dgV, sb_eq rfl hb, Int64.mul_comm]
/-! a token of letters, or of figures, ends where both say -/
set_option maxRecDepth 100000 in
theorem adv_1 {q : Nat → Bool} {a : Nat} (h : a < n) (hq : q a = true) : adv q (n - a) a = adv q (n - (a + 1)) (a + 1) := by
  rw [show n - a = (n - (a + 1)) + 1 by omega, adv, hq]
  rfl
/-! the numbers that letters come to -/
def ntV (B : Nat → Nat) : Nat → Nat → Nat → Nat
  | 0, _, v => v
  | f + 1, p, v => ntV B f (p + 1) (v * 256 + B p)
set_option maxRecDepth 100000 in
theorem sh8 (v : Int64) : (v <<< ((8 : Int32).toInt64 &&& 63)).toBitVec = v.toBitVec <<< 8 := by
  rw [Int64.toBitVec_shiftLeft]
  rfl
set_option maxRecDepth 100000 in
theorem nl_nat {v : Int64} {b : Nat} (hb : b < 128) (hv : v.toBitVec.toNat < 36028797018963968) : (nl v b).toBitVec.toNat = v.toBitVec.toNat * 256 + b := by
  have h1 : (nI b).toInt64.toBitVec.toNat = b := by
    have h2 : (nI b).toInt64.toInt = b := by rw [i64, nK_int (by omega)]
    have h3 : (nI b).toInt64.toInt = (nI b).toInt64.toBitVec.toInt := rfl
    rw [h3, BitVec.toInt_eq_toNat_cond] at h2
    have := (nI b).toInt64.toBitVec.isLt
    split at h2 <;> omega
  unfold nl
  rw [Int64.toBitVec_or, sh8, BitVec.toNat_or, h1, BitVec.toNat_shiftLeft, Nat.mod_eq_of_lt (by rw [Nat.shiftLeft_eq]; omega), ← Nat.shiftLeft_add_eq_or_of_lt (show b < 2 ^ 8 by omega), Nat.shiftLeft_eq]
set_option maxRecDepth 100000 in
theorem ltN_nat : ∀ (f p : Nat) (v : Int64) (m : Nat), m + f ≤ 8 → (1 ≤ m ∧ v.toBitVec.toNat < 128 * 256 ^ (m - 1)) ∨ (m = 0 ∧ v.toBitVec.toNat = 0) → (∀ i, p ≤ i → i < p + f → B i < 128) → (ltN B f p v).toBitVec.toNat = ntV B f p v.toBitVec.toNat
  | 0, _, _, _, _, _, _ => rfl
  | f + 1, p, v, m, hm, hv, hb => by
    have hlt : v.toBitVec.toNat < 36028797018963968 := by
      rcases hv with ⟨_, hv⟩ | ⟨_, hv⟩
      · have : (256 : Nat) ^ (m - 1) ≤ 256 ^ 6 := Nat.pow_le_pow_right (by decide) (by omega)
        omega
      · omega
    have hp := hb p (Nat.le_refl _) (by omega)
    rw [ltN, ntV, ltN_nat f (p + 1) (nl v (B p)) (m + 1) (by omega) (Or.inl ⟨by omega, ?_⟩) (fun i h1 h2 => hb i (by omega) (by omega)), nl_nat hp hlt]
    rw [nl_nat hp hlt, Nat.add_sub_cancel]
    rcases hv with ⟨h0, hv⟩ | ⟨hm0, hv⟩
    · rw [show m = (m - 1) + 1 by omega, Nat.pow_succ]
      omega
    · rw [hv, hm0]
      simp
      omega
/-! letters come to no sign and not to 0 -/
set_option maxRecDepth 100000 in
theorem ntV_le : ∀ (f p v : Nat), v ≤ ntV B f p v
  | 0, _, _ => Nat.le_refl _
  | f + 1, p, v => by
    rw [ntV]
    have := ntV_le f (p + 1) (v * 256 + B p)
    omega
set_option maxRecDepth 100000 in
theorem ntV_b {f p : Nat} (h : 97 ≤ B p) (h2 : B p ≤ 122) : (ntV B (f + 1) p 0 = B p) ∨ 24832 ≤ ntV B (f + 1) p 0 := by
  cases f with
  | zero =>
    refine Or.inl ?_
    rw [ntV, ntV, Nat.zero_mul, Nat.zero_add]
  | succ f =>
    refine Or.inr ?_
    rw [ntV, ntV]
    have := ntV_le (B := B) f (p + 1 + 1) ((0 * 256 + B p) * 256 + B (p + 1))
    omega
/-! which token it is -/
set_option maxRecDepth 100000 in
theorem spt_none {v : Int64} : ∀ (f i : Nat), (∀ j, i ≤ j → j < i + f → tk_l.getD j 0 ≠ v) → spt v f i = 3
  | 0, _, _ => rfl
  | f + 1, i, h => by
    rw [spt, decide_eq_false (h i (Nat.le_refl _) (by omega)), cond_false]
    exact spt_none f (i + 1) (fun j h1 h2 => h j (by omega) (by omega))
/-! the numbers of the tokens' letters: none, words, signs -/
set_option maxRecDepth 100000 in
theorem tk_nat : ∀ j : Fin 59, (j.1 < 4 → tk_l.getD j.1 0 = 0) ∧ (43 ≤ j.1 → (tk_l.getD j.1 0).toBitVec.toNat < 97 ∨ (tk_l.getD j.1 0).toBitVec.toNat = 15421 ∨ (tk_l.getD j.1 0).toBitVec.toNat = 15933) ∧ (4 ≤ j.1 → j.1 < 43 → isWd (tk_l.getD j.1 0) = true) := by decide +kernel
set_option maxRecDepth 100000 in
theorem spt_wd : wl.all (fun w => decide (5 ≤ spt w 59 0) && decide (spt w 59 0 ≤ 43) && decide (tk_l.getD (spt w 59 0 - 1) 0 = w)) = true := by decide +kernel
set_option maxRecDepth 100000 in
theorem spt_w {v : Int64} (h : isWd v = true) : 5 ≤ spt v 59 0 ∧ spt v 59 0 ≤ 43 ∧ tk_l.getD (spt v 59 0 - 1) 0 = v := by
  have := List.all_eq_true.mp spt_wd v (List.contains_iff_mem.mp h)
  simp only [Bool.and_eq_true, decide_eq_true_eq] at this
  exact ⟨this.1.1, this.1.2, this.2⟩
set_option maxRecDepth 100000 in
theorem spt_n {v : Int64} (h : isWd v = false) (h0 : 97 ≤ v.toBitVec.toNat) (h1 : v.toBitVec.toNat ≤ 122 ∨ 24832 ≤ v.toBitVec.toNat) : spt v 59 0 = 3 := by
  refine spt_none 59 0 (fun j _ hj e => ?_)
  have hj : j < 59 := by omega
  have ht := tk_nat ⟨j, hj⟩
  simp only at ht
  by_cases a : j < 4
  · rw [ht.1 a] at e
    rw [← e] at h0
    exact absurd h0 (by decide)
  · by_cases b : j < 43
    · have := ht.2.2 (by omega) b
      rw [e, h] at this
      cases this
    · have := ht.2.1 (by omega)
      rw [e] at this
      omega
/-! signs: by their bytes -/
def sgK (b : Nat) : Nat := spt ((nI b).toInt64) 59 0
set_option maxRecDepth 100000 in
theorem sg_tab : ∀ b : Fin 256, isL b.1 = true ∨ isF b.1 = true ∨ (isSg b.1 = true ∧ 44 ≤ sgK b.1 ∧ sgK b.1 ≤ 59 ∧ tk_l.getD (sgK b.1 - 1) 0 = (nI b.1).toInt64) ∨ (isSg b.1 = false ∧ (sgK b.1 = 3 ∨ sgK b.1 = 1)) := by decide +kernel
end ALK
