/-! THE TAPE'S TOKENS, 3: the scan of the whole tape, and the step to the next token -/
section TK3
variable {L : Nat} {xs : Nat → Int32} {C : co_T} {t : ab_H} {d sl n e o a b k ty : Nat} {B : Nat → Nat} {ini : Bool} {q : List Value} {l : List (Nat × Nat)}
/-! a token is kept in an array -/
set_option maxRecDepth 100000 in
theorem n_as4 (ha : a = k + 100) (h : SK[k]? = some (2, 4, n, l)) (hn : Nat.blt n 2147483648 = true) (hi : e < n) (hb : 1 ≤ b ∧ b ≤ 59) : mo L xs o ini .aastore 1 (MH C t) (.ref b :: .int (nI e) :: .ref a :: q) = some (q, MH (sQ C k e (some b)) t, 0) := by
  have hn := Nat.le_of_ble_eq_true hn
  show mo_as (MH C t) (.ref b :: .int (nI e) :: .ref a :: q) = _
  unfold mo_as
  simp only
  rw [MH_arR ha h]
  simp only
  rw [show mo_obj (MH C t) b = none by unfold mo_obj; rw [if_neg (by omega)]]
  simp only
  rw [if_pos ⟨trivial, hb, in_nI hi hn⟩, show a - 100 = k by omega, nK_nat (Nat.lt_trans hi hn), MH_sR h]
  rfl
/-! blanks are passed; where the tokens begin and end; what they hold; their kinds -/
def blk (B : Nat → Nat) (n p : Nat) : Nat := adv (atW B n) (n - p) p
def tkZ1 (B : Nat → Nat) (n p : Nat) : Nat := if p < n then tkE B n p else p
def tkA (B : Nat → Nat) (n : Nat) : Nat → Nat
  | 0 => blk B n 0
  | i + 1 => blk B n (tkZ1 B n (tkA B n i))
def tkZ (B : Nat → Nat) (n i : Nat) : Nat := tkZ1 B n (tkA B n i)
def vl (B : Nat → Nat) (n i : Nat) : Int64 := tkV B n (tkA B n i) (tkZ B n i)
def kd (B : Nat → Nat) (n i : Nat) : Nat := tkK B n (tkA B n i) (tkZ B n i) (vl B n i)
set_option maxRecDepth 100000 in
theorem tkE_le {p : Nat} (h : p < n) : p < tkE B n p ∧ tkE B n p ≤ n := by
  unfold tkE
  have h1 := adv_le (fun i => atL B n i || atF B n i) (n - (p + 1)) (p + 1)
  have h2 := adv_le (atF B n) (n - (p + 1)) (p + 1)
  cases isL (B p) <;> cases isF (B p) <;> simp only [cond_true, cond_false]
  · split <;> omega
  · omega
  · omega
  · omega
set_option maxRecDepth 100000 in
theorem blk_le {p : Nat} (h : p ≤ n) : p ≤ blk B n p ∧ blk B n p ≤ n := by
  have h1 := adv_le (atW B n) (n - p) p
  unfold blk
  omega
set_option maxRecDepth 100000 in
theorem tkZ1_le {p : Nat} (h : p ≤ n) : p ≤ tkZ1 B n p ∧ tkZ1 B n p ≤ n := by
  unfold tkZ1
  split
  · have := tkE_le (B := B) (by assumption : p < n)
    omega
  · omega
set_option maxRecDepth 100000 in
theorem tkA_le : ∀ i, tkA B n i ≤ n
  | 0 => (blk_le (Nat.zero_le _)).2
  | i + 1 => (blk_le (tkZ1_le (tkA_le i)).2).2
set_option maxRecDepth 100000 in
theorem tkZ_le (i : Nat) : tkA B n i ≤ tkZ B n i ∧ tkZ B n i ≤ n := tkZ1_le (tkA_le i)
set_option maxRecDepth 100000 in
theorem kd_ok (i : Nat) : 1 ≤ kd B n i ∧ kd B n i ≤ 59 := by
  have h := spt_le (vl B n i) 59 0 rfl
  unfold kd tkK
  split
  · decide
  · cases atF B n (tkA B n i) <;> simp only [cond_true, cond_false]
    · cases atL B n (tkA B n i) <;> simp only [cond_true, cond_false]
      · split
        · decide
        · exact h
      · split
        · decide
        · exact h
    · split <;> decide
set_option maxRecDepth 100000 in
theorem kd_end {i : Nat} (h : kd B n i ≠ 2) : tkA B n i < n := by
  by_cases hn : n ≤ tkA B n i
  · exfalso
    apply h
    unfold kd tkK
    rw [if_pos hn]
  · omega
set_option maxRecDepth 100000 in
theorem tkA_lt {i : Nat} (h : kd B n i ≠ 2) : tkA B n i < tkA B n (i + 1) := by
  have h1 := kd_end h
  have h2 := tkE_le (B := B) h1
  have h3 : tkA B n (i + 1) = blk B n (tkZ1 B n (tkA B n i)) := rfl
  have h4 : tkZ1 B n (tkA B n i) = tkE B n (tkA B n i) := by unfold tkZ1; rw [if_pos h1]
  have h5 := blk_le (B := B) h2.2
  rw [h3, h4]
  omega
/-! the tokens up to m are none that ends the scan; m is -/
def lst (B : Nat → Nat) (n m : Nat) : Prop := (∀ j, j < m → kd B n j ≠ 1 ∧ kd B n j ≠ 2) ∧ (kd B n m = 1 ∨ kd B n m = 2)
set_option maxRecDepth 100000 in
theorem lst_le {m : Nat} (h : lst B n m) : m ≤ n := by
  have g : ∀ j, j ≤ m → j ≤ tkA B n j := by
    intro j
    induction j with
    | zero => omega
    | succ j ih =>
      intro hj
      have := tkA_lt (h.1 j (by omega)).2
      have := ih (by omega)
      omega
  have := g m (Nat.le_refl _)
  have := tkA_le (B := B) (n := n) m
  omega
set_option maxRecDepth 100000 in
theorem lst_ex : ∃ m, lst B n m := by
  have g : ∀ f i, (∀ j, j < i → kd B n j ≠ 1 ∧ kd B n j ≠ 2) → n < tkA B n i + f → ∃ m, lst B n m := by
    intro f
    induction f with
    | zero =>
      intro i _ h
      have := tkA_le (B := B) (n := n) i
      omega
    | succ f ih =>
      intro i hi h
      by_cases h1 : kd B n i = 1 ∨ kd B n i = 2
      · exact ⟨i, hi, h1⟩
      · have h2 : kd B n i ≠ 1 ∧ kd B n i ≠ 2 := ⟨fun e => h1 (Or.inl e), fun e => h1 (Or.inr e)⟩
        refine ih (i + 1) (fun j hj => ?_) ?_
        · by_cases e : j = i
          · subst e
            exact h2
          · exact hi j (by omega)
        · have := tkA_lt h2.2
          omega
  exact g (n + 1) 0 (fun j hj => by omega) (by omega)
/-! the arrays behind i tokens -/
def scC (B : Nat → Nat) (n : Nat) (C : co_T) : Nat → co_T
  | 0 => C
  | i + 1 => sI (sQ (sJ (scC B n C i) 5 i (vl B n i)) 3 i (some (kd B n i))) 4 i (nI (tkA B n i))
set_option maxRecDepth 100000 in
theorem tpK_of {C' : co_T} (T : tpK C B n) (h1 : C'.1 1 4 = C.1 1 4) (h2 : ∀ i, C'.1 2 i = C.1 2 i) : tpK C' B n := ⟨by rw [h1]; exact T.1, T.2.1, fun i hi => ⟨(T.2.2 i hi).1, by rw [h2]; exact (T.2.2 i hi).2⟩⟩
set_option maxRecDepth 100000 in
theorem scC_1 : ∀ (i k j : Nat), k ≠ 4 → (scC B n C i).1 k j = C.1 k j
  | 0, _, _, _ => rfl
  | i + 1, k, j, h => by
    rw [scC, sI_1, if_neg (fun z => h z.1)]
    exact scC_1 i k j h
set_option maxRecDepth 100000 in
theorem scC_T (T : tpK C B n) (i : Nat) : tpK (scC B n C i) B n := tpK_of T (scC_1 i 1 4 (by decide)) (fun j => scC_1 i 2 j (by decide))
/-! what the arrays hold -/
def scP (B : Nat → Nat) (n : Nat) (C : co_T) (m : Nat) : Prop := ∀ j, j ≤ m → C.2.2 3 j = some (kd B n j) ∧ C.1 4 j = nI (tkA B n j) ∧ C.2.1 5 j = vl B n j
set_option maxRecDepth 100000 in
theorem scC_P : ∀ (i j : Nat), j < i → (scC B n C i).2.2 3 j = some (kd B n j) ∧ (scC B n C i).1 4 j = nI (tkA B n j) ∧ (scC B n C i).2.1 5 j = vl B n j
  | 0, _, h => absurd h (Nat.not_lt_zero _)
  | i + 1, j, h => by
    rw [scC]
    by_cases e : j = i
    · subst e
      refine ⟨?_, ?_, ?_⟩
      · rw [sI_2, sQ_3, if_pos ⟨rfl, rfl⟩]
      · rw [sI_1, if_pos ⟨rfl, rfl⟩]
      · rw [sI_2, sQ_2, sJ_2, if_pos ⟨rfl, rfl⟩]
    · have ih := scC_P i j (by omega)
      refine ⟨?_, ?_, ?_⟩
      · rw [sI_2, sQ_3, if_neg (fun z => e z.2), sJ_3]
        exact ih.1
      · rw [sI_1, if_neg (fun z => e z.2), sQ_1, sJ_1]
        exact ih.2.1
      · rw [sI_2, sQ_2, sJ_2, if_neg (fun z => e z.2)]
        exact ih.2.2
set_option maxRecDepth 100000 in
theorem m_15a {p : Nat} (T : tpK C B n) (hp : p ≤ n) : Wd L xs (d + 1) y_15 (0, [(0, .ref 101), (1, .int (nI p))], [], MH C t, sl) (Rt (some (.int (nI (tkZ1 B n p)))) (MH C t) sl) nX := by
  unfold tkZ1
  by_cases h : p < n
  · rw [if_pos h]
    exact m_15 T h
  · obtain rfl : p = n := by omega
    rw [if_neg h]
    exact Wd_up (by omega) (m_15e (d := d) T)
set_option maxRecDepth 100000 in
theorem ok_kd {i : Nat} : ab_ok (kd B n i) = true := by
  have := kd_ok (B := B) (n := n) i
  unfold ab_ok
  simp [this]
/-! the step to the token k, whose kind is a -/
def nxC (C : co_T) (k a : Nat) : co_T := sJ (sI (sQ (sI C 1 5 (nI k)) 1 6 (some a)) 1 7 (C.1 4 k)) 1 8 (C.2.1 5 k)
set_option maxRecDepth 100000 in
theorem m_21 {k a : Nat} (hk : C.1 1 5 + 1 = nI k) (h6 : k ≤ 600) (ha : C.2.2 3 k = some a) : Wd L xs d y_21 (0, [(0, .ref 101)], [], MH C t, sl) (Rt none (MH (nxC C k a) t) sl) nX := by
  refine w_p (pc1 := 1) rfl rfl ?_
  refine w_m0 (pc1 := 4) rfl rfl (h_gI rfl rfl rfl rfl rfl) rfl ?_
  refine w_p (pc1 := 5) (st1 := .int 1 :: _) rfl rfl ?_
  refine w_iadd (pc1 := 6) (z := nI (k)) rfl (hk) rfl ?_
  refine w_f (a := 72) (b := 9) (bN_lt_f (a := k) (b := 0) (by omega) (by omega) (by omega)) rfl rfl ?_
  refine w_p (pc1 := 10) rfl rfl ?_
  refine w_m0 (pc1 := 13) rfl rfl (h_gI rfl rfl rfl rfl rfl) rfl ?_
  refine w_p (pc1 := 14) (st1 := .int 1 :: _) rfl rfl ?_
  refine w_iadd (pc1 := 15) (z := nI (k)) rfl (hk) rfl ?_
  refine w_p (pc1 := 16) rfl rfl ?_
  refine w_m0 (pc1 := 19) rfl rfl (h_gC rfl rfl rfl rfl) rfl ?_
  refine w_m0 (pc1 := 20) (st1 := .int 601 :: _) rfl rfl (h_lnR rfl rfl (by decide)) rfl ?_
  refine w_f (a := 72) (b := 23) (bN_ge_f (a := k) (b := 601) (by omega) (by omega) (by omega)) rfl rfl ?_
  refine w_p (pc1 := 24) rfl rfl ?_
  refine w_p (pc1 := 25) rfl rfl ?_
  refine w_m0 (pc1 := 28) rfl rfl (h_gI rfl rfl rfl rfl rfl) rfl ?_
  refine w_p (pc1 := 29) (st1 := .int 1 :: _) rfl rfl ?_
  refine w_iadd (pc1 := 30) (z := nI (k)) rfl (hk) rfl ?_
  refine w_m0 (pc1 := 33) rfl rfl (h_pI rfl rfl rfl rfl rfl rfl rfl ⟨rfl, rfl⟩ rfl) rfl ?_
  refine w_p (pc1 := 34) rfl rfl ?_
  refine w_p (pc1 := 35) rfl rfl ?_
  refine w_m0 (pc1 := 38) rfl rfl (h_gC rfl rfl rfl rfl) rfl ?_
  refine w_p (pc1 := 39) rfl rfl ?_
  refine w_m0 (pc1 := 42) (st1 := .int (nI (k)) :: _) rfl rfl (h_gIe rfl rfl rfl rfl rfl (rfl)) rfl ?_
  refine w_m0 (pc1 := 43) (st1 := .ref (a) :: _) rfl rfl (n_als (e := k) rfl rfl (by decide) rfl (by omega) (by rw [sI_2]; exact ha)) rfl ?_
  refine w_m0 (pc1 := 46) rfl rfl (h_pR (v := some a) rfl rfl rfl rfl rfl rfl rfl ⟨rfl, rfl⟩ rfl) rfl ?_
  refine w_p (pc1 := 47) rfl rfl ?_
  refine w_p (pc1 := 48) rfl rfl ?_
  refine w_m0 (pc1 := 51) rfl rfl (h_gC rfl rfl rfl rfl) rfl ?_
  refine w_p (pc1 := 52) rfl rfl ?_
  refine w_m0 (pc1 := 55) (st1 := .int (nI (k)) :: _) rfl rfl (h_gIe rfl rfl rfl rfl rfl (rfl)) rfl ?_
  refine w_m0 (pc1 := 56) rfl rfl (n_il (e := k) rfl rfl rfl (by omega)) rfl ?_
  refine w_m0 (pc1 := 59) rfl rfl (h_pI rfl rfl rfl rfl rfl rfl rfl ⟨rfl, rfl⟩ rfl) rfl ?_
  refine w_p (pc1 := 60) rfl rfl ?_
  refine w_p (pc1 := 61) rfl rfl ?_
  refine w_m0 (pc1 := 64) rfl rfl (h_gC rfl rfl rfl rfl) rfl ?_
  refine w_p (pc1 := 65) rfl rfl ?_
  refine w_m0 (pc1 := 68) (st1 := .int (nI (k)) :: _) rfl rfl (h_gIe rfl rfl rfl rfl rfl (rfl)) rfl ?_
  refine w_m0 (pc1 := 69) rfl rfl (n_ll (e := k) rfl rfl rfl (by omega)) rfl ?_
  refine w_m0 (pc1 := 72) rfl rfl (h_pJ rfl rfl rfl rfl rfl rfl rfl ⟨rfl, rfl⟩ rfl) rfl ?_
  refine w_r rfl rfl rfl (fun _ _ => rfl) rfl ?_
  exact ⟨rfl, rfl, rfl⟩
set_option maxRecDepth 100000 in
theorem lp_13 (T0 : tpK C B n) {m : Nat} (hm : lst B n m) : ∀ (f i : Nat) (x : Int32), i + f = m → Wd L xs (d + 2) y_13 (8, [(3, .int (nI (i + 1))), (1, .int (nI (tkZ B n i))), (2, .ref (kd B n i)), (4, .int x), (0, .ref 101)], [], MH (scC B n C (i + 1)) t, sl) (fun v h s => none = v ∧ (∃ a, (scC B n C (m + 1)).2.2 3 0 = some a ∧ MH (nxC (sI (scC B n C (m + 1)) 1 5 (-1)) 0 a) t = h) ∧ sl = s) nX
  | 0, i, x, hf => by
    obtain rfl : i = m := by omega
    have h6 := T0.2.1
    have hl := lst_le hm
    obtain ⟨a0, ha0⟩ : ∃ a, (scC B n C (i + 1)).2.2 3 0 = some a := ⟨_, (scC_P (i + 1) 0 (by omega)).1⟩
    by_cases h600 : i + 1 ≤ 600
    · rcases hm.2 with h1 | h2
      · skip
        refine w_p (pc1 := 9) rfl rfl ?_
        refine w_p (pc1 := 12) (st1 := .int 600 :: _) rfl rfl ?_
        refine w_f (a := 92) (b := 15) (bN_gt_f (a := i + 1) (b := 600) (by omega) (by omega) (by omega)) rfl rfl ?_
        refine w_p (pc1 := 16) rfl rfl ?_
        refine w_m0 (pc1 := 19) (st1 := .ref 2 :: _) rfl rfl rfl rfl ?_
        refine w_ae_n (A := 92) (Bn := 22) (ok_kd) (by decide) (by omega) rfl rfl rfl ?_
        refine w_p (pc1 := 23) rfl rfl ?_
        refine w_m0 (pc1 := 26) (st1 := .ref 1 :: _) rfl rfl rfl rfl ?_
        refine w_ae_y (A := 92) (ok_kd) (by decide) (h1) rfl rfl ?_
        refine w_p (pc1 := 93) rfl rfl ?_
        refine w_p (pc1 := 94) (st1 := .int (-1) :: _) rfl rfl ?_
        refine w_m0 (pc1 := 97) rfl rfl (h_pI rfl rfl rfl rfl rfl rfl rfl ⟨rfl, rfl⟩ rfl) rfl ?_
        refine w_p (pc1 := 98) rfl rfl ?_
        refine w_je (pc1 := 101) (vs := [.ref 101]) (rest := []) (st1 := []) (m_21 (d := _) (sl := 0) (k := 0) (a := a0) (by rw [sI_1, if_pos ⟨rfl, rfl⟩]; rfl) (by omega) (by rw [sI_2]; exact ha0)) rfl rfl rfl (fun _ _ => rfl) rfl (by exact cl_v my_21 rfl rfl rfl (Nat.le_of_ble_eq_true rfl) rfl (MH_obj rfl rfl) rfl (by decide) rfl rfl) (by rfl) (Nat.le_of_ble_eq_true rfl) (Nat.le_of_ble_eq_true rfl) rfl (by rfl) ?_
        refine w_r rfl rfl rfl (fun _ _ => rfl) rfl ?_
        exact ⟨rfl, ⟨a0, ha0, rfl⟩, rfl⟩
      · skip
        refine w_p (pc1 := 9) rfl rfl ?_
        refine w_p (pc1 := 12) (st1 := .int 600 :: _) rfl rfl ?_
        refine w_f (a := 92) (b := 15) (bN_gt_f (a := i + 1) (b := 600) (by omega) (by omega) (by omega)) rfl rfl ?_
        refine w_p (pc1 := 16) rfl rfl ?_
        refine w_m0 (pc1 := 19) (st1 := .ref 2 :: _) rfl rfl rfl rfl ?_
        refine w_ae_y (A := 92) (ok_kd) (by decide) (h2) rfl rfl ?_
        refine w_p (pc1 := 93) rfl rfl ?_
        refine w_p (pc1 := 94) (st1 := .int (-1) :: _) rfl rfl ?_
        refine w_m0 (pc1 := 97) rfl rfl (h_pI rfl rfl rfl rfl rfl rfl rfl ⟨rfl, rfl⟩ rfl) rfl ?_
        refine w_p (pc1 := 98) rfl rfl ?_
        refine w_je (pc1 := 101) (vs := [.ref 101]) (rest := []) (st1 := []) (m_21 (d := _) (sl := 0) (k := 0) (a := a0) (by rw [sI_1, if_pos ⟨rfl, rfl⟩]; rfl) (by omega) (by rw [sI_2]; exact ha0)) rfl rfl rfl (fun _ _ => rfl) rfl (by exact cl_v my_21 rfl rfl rfl (Nat.le_of_ble_eq_true rfl) rfl (MH_obj rfl rfl) rfl (by decide) rfl rfl) (by rfl) (Nat.le_of_ble_eq_true rfl) (Nat.le_of_ble_eq_true rfl) rfl (by rfl) ?_
        refine w_r rfl rfl rfl (fun _ _ => rfl) rfl ?_
        exact ⟨rfl, ⟨a0, ha0, rfl⟩, rfl⟩
    · skip
      refine w_p (pc1 := 9) rfl rfl ?_
      refine w_p (pc1 := 12) (st1 := .int 600 :: _) rfl rfl ?_
      refine w_t (a := 92) (b := 15) (bN_gt_t (a := i + 1) (b := 600) (by omega) (by omega) (by omega)) rfl rfl ?_
      refine w_p (pc1 := 93) rfl rfl ?_
      refine w_p (pc1 := 94) (st1 := .int (-1) :: _) rfl rfl ?_
      refine w_m0 (pc1 := 97) rfl rfl (h_pI rfl rfl rfl rfl rfl rfl rfl ⟨rfl, rfl⟩ rfl) rfl ?_
      refine w_p (pc1 := 98) rfl rfl ?_
      refine w_je (pc1 := 101) (vs := [.ref 101]) (rest := []) (st1 := []) (m_21 (d := _) (sl := 0) (k := 0) (a := a0) (by rw [sI_1, if_pos ⟨rfl, rfl⟩]; rfl) (by omega) (by rw [sI_2]; exact ha0)) rfl rfl rfl (fun _ _ => rfl) rfl (by exact cl_v my_21 rfl rfl rfl (Nat.le_of_ble_eq_true rfl) rfl (MH_obj rfl rfl) rfl (by decide) rfl rfl) (by rfl) (Nat.le_of_ble_eq_true rfl) (Nat.le_of_ble_eq_true rfl) rfl (by rfl) ?_
      refine w_r rfl rfl rfl (fun _ _ => rfl) rfl ?_
      exact ⟨rfl, ⟨a0, ha0, rfl⟩, rfl⟩
  | f + 1, i, x, hf => by
    have h6 := T0.2.1
    have hl := lst_le hm
    have T := scC_T (C := C) T0 (i + 1)
    have hp := (tkZ_le (B := B) (n := n) i).2
    have hz := tkZ_le (B := B) (n := n) (i + 1)
    have hk := hm.1 i (by omega)
    have T2 : tpK (sJ (scC B n C (i + 1)) 5 (i + 1) (vl B n (i + 1))) B n := T
    refine w_p (pc1 := 9) rfl rfl ?_
    refine w_p (pc1 := 12) (st1 := .int 600 :: _) rfl rfl ?_
    refine w_f (a := 92) (b := 15) (bN_gt_f (a := i + 1) (b := 600) (by omega) (by omega) (by omega)) rfl rfl ?_
    refine w_p (pc1 := 16) rfl rfl ?_
    refine w_m0 (pc1 := 19) (st1 := .ref 2 :: _) rfl rfl rfl rfl ?_
    refine w_ae_n (A := 92) (Bn := 22) (ok_kd) (by decide) (hk.2) rfl rfl rfl ?_
    refine w_p (pc1 := 23) rfl rfl ?_
    refine w_m0 (pc1 := 26) (st1 := .ref 1 :: _) rfl rfl rfl rfl ?_
    refine w_ae_n (A := 92) (Bn := 29) (ok_kd) (by decide) (hk.1) rfl rfl rfl ?_
    refine w_p (pc1 := 30) rfl rfl ?_
    refine w_p (pc1 := 31) rfl rfl ?_
    refine w_je (pc1 := 34) (vs := [.ref 101, .int (nI (tkZ B n i))]) (rest := []) (st1 := [.int (nI (tkA B n (i + 1)))]) (m_14 (d := _) (sl := 0) T hp) rfl rfl rfl (fun _ _ => rfl) rfl (by exact cl_v my_14 rfl rfl rfl (Nat.le_of_ble_eq_true rfl) rfl (MH_obj rfl rfl) rfl (by decide) rfl rfl) (by rfl) (Nat.le_of_ble_eq_true rfl) (Nat.le_of_ble_eq_true rfl) rfl (by rfl) ?_
    refine w_p (pc1 := 35) (al1 := [(1, .int (nI (tkA B n (i + 1)))), (3, .int (nI (i + 1))), (2, .ref (kd B n i)), (4, _), (0, .ref 101)]) rfl rfl ?_
    refine w_p (pc1 := 36) rfl rfl ?_
    refine w_p (pc1 := 37) rfl rfl ?_
    refine w_je (pc1 := 40) (vs := [.ref 101, .int (nI (tkA B n (i + 1)))]) (rest := []) (st1 := [.int (nI (tkZ B n (i + 1)))]) (m_15a (d := _) (sl := 0) T (tkA_le _)) rfl rfl rfl (fun _ _ => rfl) rfl (by exact cl_v my_15 rfl rfl rfl (Nat.le_of_ble_eq_true rfl) rfl (MH_obj rfl rfl) rfl (by decide) rfl rfl) (by rfl) (Nat.le_of_ble_eq_true rfl) (Nat.le_of_ble_eq_true rfl) rfl (by rfl) ?_
    refine w_p (pc1 := 42) (al1 := [(4, .int (nI (tkZ B n (i + 1)))), (1, .int (nI (tkA B n (i + 1)))), (3, .int (nI (i + 1))), (2, .ref (kd B n i)), (0, .ref 101)]) rfl rfl ?_
    refine w_p (pc1 := 43) rfl rfl ?_
    refine w_m0 (pc1 := 46) rfl rfl (h_gC rfl rfl rfl rfl) rfl ?_
    refine w_p (pc1 := 47) rfl rfl ?_
    refine w_p (pc1 := 48) rfl rfl ?_
    refine w_p (pc1 := 49) rfl rfl ?_
    refine w_p (pc1 := 51) rfl rfl ?_
    refine w_je (pc1 := 54) (vs := [.ref 101, .int (nI (tkA B n (i + 1))), .int (nI (tkZ B n (i + 1)))]) (rest := [.int (nI (i + 1)), .ref 105]) (st1 := [.long (vl B n (i + 1)), .int (nI (i + 1)), .ref 105]) (m_18 (d := _) (sl := 0) T hz.1 hz.2) rfl rfl rfl (fun _ _ => rfl) rfl (by exact cl_v my_18 rfl rfl rfl (Nat.le_of_ble_eq_true rfl) rfl (MH_obj rfl rfl) rfl (by decide) rfl rfl) (by rfl) (Nat.le_of_ble_eq_true rfl) (Nat.le_of_ble_eq_true rfl) rfl (by rfl) ?_
    refine w_m0 (pc1 := 55) rfl rfl (n_ls (e := i + 1) rfl rfl rfl (by omega)) rfl ?_
    refine w_p (pc1 := 56) rfl rfl ?_
    refine w_p (pc1 := 57) rfl rfl ?_
    refine w_p (pc1 := 59) rfl rfl ?_
    refine w_p (pc1 := 60) rfl rfl ?_
    refine w_m0 (pc1 := 63) rfl rfl (h_gC rfl rfl rfl rfl) rfl ?_
    refine w_p (pc1 := 64) rfl rfl ?_
    refine w_m0 (pc1 := 65) (st1 := .long (vl B n (i + 1)) :: _) rfl rfl (n_lle (e := i + 1) rfl rfl rfl (by omega) (by rw [sJ_2, if_pos ⟨rfl, rfl⟩])) rfl ?_
    refine w_je (pc1 := 68) (vs := [.ref 101, .int (nI (tkA B n (i + 1))), .int (nI (tkZ B n (i + 1))), .long (vl B n (i + 1))]) (rest := []) (st1 := [.ref (kd B n (i + 1))]) (m_19 (d := _) (sl := 0) (v := vl B n (i + 1)) T2 hz.1 hz.2) rfl rfl rfl (fun _ _ => rfl) rfl (by exact cl_v my_19 rfl rfl rfl (Nat.le_of_ble_eq_true rfl) rfl (MH_obj rfl rfl) rfl (by decide) rfl rfl) (by rfl) (Nat.le_of_ble_eq_true rfl) (Nat.le_of_ble_eq_true rfl) rfl (by rfl) ?_
    refine w_p (pc1 := 69) (al1 := [(2, .ref (kd B n (i + 1))), (4, .int (nI (tkZ B n (i + 1)))), (1, .int (nI (tkA B n (i + 1)))), (3, .int (nI (i + 1))), (0, .ref 101)]) rfl rfl ?_
    refine w_p (pc1 := 70) rfl rfl ?_
    refine w_m0 (pc1 := 73) rfl rfl (h_gC rfl rfl rfl rfl) rfl ?_
    refine w_p (pc1 := 74) rfl rfl ?_
    refine w_p (pc1 := 75) rfl rfl ?_
    refine w_m0 (pc1 := 76) rfl rfl (n_as4 (e := i + 1) rfl rfl rfl (by omega) (kd_ok _)) rfl ?_
    refine w_p (pc1 := 77) rfl rfl ?_
    refine w_m0 (pc1 := 80) rfl rfl (h_gC rfl rfl rfl rfl) rfl ?_
    refine w_p (pc1 := 81) rfl rfl ?_
    refine w_p (pc1 := 82) rfl rfl ?_
    refine w_m0 (pc1 := 83) rfl rfl (n_is (e := i + 1) rfl rfl rfl (by omega)) rfl ?_
    refine w_p (pc1 := 85) rfl rfl ?_
    refine w_p (pc1 := 86) (al1 := [(1, .int (nI (tkZ B n (i + 1)))), (2, .ref (kd B n (i + 1))), (4, .int (nI (tkZ B n (i + 1)))), (3, .int (nI (i + 1))), (0, .ref 101)]) rfl rfl ?_
    refine w_iinc (pc1 := 89) (u := nI (i + 1)) (z := nI (i + 1 + 1)) (al1 := [(3, .int (nI (i + 1 + 1))), (1, .int (nI (tkZ B n (i + 1)))), (2, .ref (kd B n (i + 1))), (4, .int (nI (tkZ B n (i + 1)))), (0, .ref 101)]) rfl rfl rfl nK_1 rfl rfl ?_
    refine w_p (pc1 := 8) rfl rfl ?_
    exact lp_13 T0 hm f (i + 1) _ (by omega)
set_option maxRecDepth 100000 in
theorem m_13 (T : tpK C B n) {m : Nat} (hm : lst B n m) : Wd L xs (d + 2) y_13 (0, [(0, .ref 101)], [], MH C t, sl) (fun v h s => none = v ∧ (∃ a, (scC B n C (m + 1)).2.2 3 0 = some a ∧ MH (nxC (sI (scC B n C (m + 1)) 1 5 (-1)) 0 a) t = h) ∧ sl = s) nX := by
  have h6 := T.2.1
  have hp : 0 ≤ n := Nat.zero_le _
  have hz := tkZ_le (B := B) (n := n) 0
  have T2 : tpK (sJ C 5 0 (vl B n 0)) B n := T
  refine w_p (pc1 := 1) (st1 := .int 0 :: _) rfl rfl ?_
  refine w_p (pc1 := 2) (al1 := [(1, .int 0), (0, .ref 101)]) rfl rfl ?_
  refine w_m0 (pc1 := 5) (st1 := .ref 3 :: _) rfl rfl rfl rfl ?_
  refine w_p (pc1 := 6) (al1 := [(2, .ref 3), (1, .int 0), (0, .ref 101)]) rfl rfl ?_
  refine w_p (pc1 := 7) (st1 := .int 0 :: _) rfl rfl ?_
  refine w_p (pc1 := 8) (al1 := [(3, .int 0), (2, .ref 3), (1, .int 0), (0, .ref 101)]) rfl rfl ?_
  refine w_p (pc1 := 9) rfl rfl ?_
  refine w_p (pc1 := 12) (st1 := .int 600 :: _) rfl rfl ?_
  refine w_f (a := 92) (b := 15) rfl rfl rfl ?_
  refine w_p (pc1 := 16) rfl rfl ?_
  refine w_m0 (pc1 := 19) (st1 := .ref 2 :: _) rfl rfl rfl rfl ?_
  refine w_f (a := 92) (b := 22) rfl rfl rfl ?_
  refine w_p (pc1 := 23) rfl rfl ?_
  refine w_m0 (pc1 := 26) (st1 := .ref 1 :: _) rfl rfl rfl rfl ?_
  refine w_f (a := 92) (b := 29) rfl rfl rfl ?_
  refine w_p (pc1 := 30) rfl rfl ?_
  refine w_p (pc1 := 31) rfl rfl ?_
  refine w_je (pc1 := 34) (vs := [.ref 101, .int 0]) (rest := []) (st1 := [.int (nI (tkA B n 0))]) (m_14 (d := _) (sl := 0) (p := 0) T hp) rfl rfl rfl (fun _ _ => rfl) rfl (by exact cl_v my_14 rfl rfl rfl (Nat.le_of_ble_eq_true rfl) rfl (MH_obj rfl rfl) rfl (by decide) rfl rfl) (by rfl) (Nat.le_of_ble_eq_true rfl) (Nat.le_of_ble_eq_true rfl) rfl (by rfl) ?_
  refine w_p (pc1 := 35) (al1 := [(1, .int (nI (tkA B n 0))), (3, .int 0), (2, .ref 3), (0, .ref 101)]) rfl rfl ?_
  refine w_p (pc1 := 36) rfl rfl ?_
  refine w_p (pc1 := 37) rfl rfl ?_
  refine w_je (pc1 := 40) (vs := [.ref 101, .int (nI (tkA B n 0))]) (rest := []) (st1 := [.int (nI (tkZ B n 0))]) (m_15a (d := _) (sl := 0) T (tkA_le _)) rfl rfl rfl (fun _ _ => rfl) rfl (by exact cl_v my_15 rfl rfl rfl (Nat.le_of_ble_eq_true rfl) rfl (MH_obj rfl rfl) rfl (by decide) rfl rfl) (by rfl) (Nat.le_of_ble_eq_true rfl) (Nat.le_of_ble_eq_true rfl) rfl (by rfl) ?_
  refine w_p (pc1 := 42) (al1 := [(4, .int (nI (tkZ B n 0))), (1, .int (nI (tkA B n 0))), (3, .int 0), (2, .ref 3), (0, .ref 101)]) rfl rfl ?_
  refine w_p (pc1 := 43) rfl rfl ?_
  refine w_m0 (pc1 := 46) rfl rfl (h_gC rfl rfl rfl rfl) rfl ?_
  refine w_p (pc1 := 47) rfl rfl ?_
  refine w_p (pc1 := 48) rfl rfl ?_
  refine w_p (pc1 := 49) rfl rfl ?_
  refine w_p (pc1 := 51) rfl rfl ?_
  refine w_je (pc1 := 54) (vs := [.ref 101, .int (nI (tkA B n 0)), .int (nI (tkZ B n 0))]) (rest := [.int 0, .ref 105]) (st1 := [.long (vl B n 0), .int 0, .ref 105]) (m_18 (d := _) (sl := 0) T hz.1 hz.2) rfl rfl rfl (fun _ _ => rfl) rfl (by exact cl_v my_18 rfl rfl rfl (Nat.le_of_ble_eq_true rfl) rfl (MH_obj rfl rfl) rfl (by decide) rfl rfl) (by rfl) (Nat.le_of_ble_eq_true rfl) (Nat.le_of_ble_eq_true rfl) rfl (by rfl) ?_
  refine w_m0 (pc1 := 55) rfl rfl (n_ls (e := 0) rfl rfl rfl (by omega)) rfl ?_
  refine w_p (pc1 := 56) rfl rfl ?_
  refine w_p (pc1 := 57) rfl rfl ?_
  refine w_p (pc1 := 59) rfl rfl ?_
  refine w_p (pc1 := 60) rfl rfl ?_
  refine w_m0 (pc1 := 63) rfl rfl (h_gC rfl rfl rfl rfl) rfl ?_
  refine w_p (pc1 := 64) rfl rfl ?_
  refine w_m0 (pc1 := 65) (st1 := .long (vl B n 0) :: _) rfl rfl (n_lle (e := 0) rfl rfl rfl (by omega) (by rw [sJ_2, if_pos ⟨rfl, rfl⟩])) rfl ?_
  refine w_je (pc1 := 68) (vs := [.ref 101, .int (nI (tkA B n 0)), .int (nI (tkZ B n 0)), .long (vl B n 0)]) (rest := []) (st1 := [.ref (kd B n 0)]) (m_19 (d := _) (sl := 0) (v := vl B n 0) T2 hz.1 hz.2) rfl rfl rfl (fun _ _ => rfl) rfl (by exact cl_v my_19 rfl rfl rfl (Nat.le_of_ble_eq_true rfl) rfl (MH_obj rfl rfl) rfl (by decide) rfl rfl) (by rfl) (Nat.le_of_ble_eq_true rfl) (Nat.le_of_ble_eq_true rfl) rfl (by rfl) ?_
  refine w_p (pc1 := 69) (al1 := [(2, .ref (kd B n 0)), (4, .int (nI (tkZ B n 0))), (1, .int (nI (tkA B n 0))), (3, .int 0), (0, .ref 101)]) rfl rfl ?_
  refine w_p (pc1 := 70) rfl rfl ?_
  refine w_m0 (pc1 := 73) rfl rfl (h_gC rfl rfl rfl rfl) rfl ?_
  refine w_p (pc1 := 74) rfl rfl ?_
  refine w_p (pc1 := 75) rfl rfl ?_
  refine w_m0 (pc1 := 76) rfl rfl (n_as4 (e := 0) rfl rfl rfl (by omega) (kd_ok _)) rfl ?_
  refine w_p (pc1 := 77) rfl rfl ?_
  refine w_m0 (pc1 := 80) rfl rfl (h_gC rfl rfl rfl rfl) rfl ?_
  refine w_p (pc1 := 81) rfl rfl ?_
  refine w_p (pc1 := 82) rfl rfl ?_
  refine w_m0 (pc1 := 83) rfl rfl (n_is (e := 0) rfl rfl rfl (by omega)) rfl ?_
  refine w_p (pc1 := 85) rfl rfl ?_
  refine w_p (pc1 := 86) (al1 := [(1, .int (nI (tkZ B n 0))), (2, .ref (kd B n 0)), (4, .int (nI (tkZ B n 0))), (3, .int 0), (0, .ref 101)]) rfl rfl ?_
  refine w_p (pc1 := 89) (al1 := [(3, .int 1), (1, .int (nI (tkZ B n 0))), (2, .ref (kd B n 0)), (4, .int (nI (tkZ B n 0))), (0, .ref 101)]) rfl rfl ?_
  refine w_p (pc1 := 8) rfl rfl ?_
  exact lp_13 T hm m 0 _ (by omega)
end TK3
