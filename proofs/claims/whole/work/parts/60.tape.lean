/-! THE TAPE'S TOKENS, 1: letters, figures, blanks -/
section TAP
variable {L : Nat} {xs : Nat → Int32} {C : co_T} {t : ab_H} {d sl n p : Nat} {B : Nat → Nat}
def sb (b : Nat) : Int32 := if b < 128 then nI b else nI b - 256
def isL (b : Nat) : Bool := decide (97 ≤ b) && decide (b ≤ 122)
def isF (b : Nat) : Bool := decide (48 ≤ b) && decide (b ≤ 57)
def isW (b : Nat) : Bool := decide (b = 32) || decide (b = 10)
/-! the bytes that were fed, as one side keeps them -/
def tpK (C : co_T) (B : Nat → Nat) (n : Nat) : Prop := C.1 1 4 = nI n ∧ n ≤ 600 ∧ ∀ i, i < n → B i < 256 ∧ C.1 2 i = sb (B i)
/-! on while it is so, at most f steps -/
def adv (q : Nat → Bool) : Nat → Nat → Nat
  | 0, p => p
  | f + 1, p => bif q p then adv q f (p + 1) else p
set_option maxRecDepth 100000 in
theorem adv_le (q : Nat → Bool) : ∀ f p, p ≤ adv q f p ∧ adv q f p ≤ p + f
  | 0, p => ⟨Nat.le_refl _, Nat.le_refl _⟩
  | f + 1, p => by
    rw [adv]
    have := adv_le q f (p + 1)
    cases q p
    · exact ⟨Nat.le_refl _, by simp only [cond_false]; omega⟩
    · simp only [cond_true]
      omega
set_option maxRecDepth 100000 in
theorem sb_int {b : Nat} (h : b < 256) : (sb b).toInt = if b < 128 then (b : Int) else (b : Int) - 256 := by
  unfold sb
  split
  · rw [nK_int (by omega)]
  · rw [sub_int (by rw [nK_int (by omega)]; show _ ≤ (b : Int) - 256; omega) (by rw [nK_int (by omega)]; show (b : Int) - 256 < _; omega), nK_int (by omega)]
    rfl
set_option maxRecDepth 100000 in
theorem sb_eq {b c : Nat} (h : b = c) (hc : c < 128) : sb b = nI c := by
  subst h
  unfold sb
  rw [if_pos hc]
set_option maxRecDepth 100000 in
theorem sb_ne {b c : Nat} (hb : b < 256) (hc : c < 128) (h : b ≠ c) : sb b ≠ nI c := by
  intro e
  have h1 := congrArg Int32.toInt e
  rw [sb_int hb, nK_int (by omega)] at h1
  split at h1 <;> omega
set_option maxRecDepth 100000 in
theorem isL_y {b : Nat} (hb : b < 256) (h1 : 97 ≤ (sb b).toInt) (h2 : (sb b).toInt ≤ 122) : isL b = true := by
  rw [sb_int hb] at h1 h2
  unfold isL
  simp only [Bool.and_eq_true, decide_eq_true_eq]
  split at h1 <;> omega
set_option maxRecDepth 100000 in
theorem isL_n1 {b : Nat} (hb : b < 256) (h1 : (sb b).toInt < 97) : isL b = false := by
  rw [sb_int hb] at h1
  unfold isL
  simp only [Bool.and_eq_false_iff, decide_eq_false_iff_not]
  split at h1 <;> omega
set_option maxRecDepth 100000 in
theorem isL_n2 {b : Nat} (hb : b < 256) (h1 : 122 < (sb b).toInt) : isL b = false := by
  rw [sb_int hb] at h1
  unfold isL
  simp only [Bool.and_eq_false_iff, decide_eq_false_iff_not]
  split at h1 <;> omega
set_option maxRecDepth 100000 in
theorem isF_y {b : Nat} (hb : b < 256) (h1 : 48 ≤ (sb b).toInt) (h2 : (sb b).toInt ≤ 57) : isF b = true := by
  rw [sb_int hb] at h1 h2
  unfold isF
  simp only [Bool.and_eq_true, decide_eq_true_eq]
  split at h1 <;> omega
set_option maxRecDepth 100000 in
theorem isF_n1 {b : Nat} (hb : b < 256) (h1 : (sb b).toInt < 48) : isF b = false := by
  rw [sb_int hb] at h1
  unfold isF
  simp only [Bool.and_eq_false_iff, decide_eq_false_iff_not]
  split at h1 <;> omega
set_option maxRecDepth 100000 in
theorem isF_n2 {b : Nat} (hb : b < 256) (h1 : 57 < (sb b).toInt) : isF b = false := by
  rw [sb_int hb] at h1
  unfold isF
  simp only [Bool.and_eq_false_iff, decide_eq_false_iff_not]
  split at h1 <;> omega
def atL (B : Nat → Nat) (n p : Nat) : Bool := decide (p < n) && isL (B p)
def atF (B : Nat → Nat) (n p : Nat) : Bool := decide (p < n) && isF (B p)
def atW (B : Nat → Nat) (n p : Nat) : Bool := decide (p < n) && isW (B p)
set_option maxRecDepth 100000 in
theorem m_16 (T : tpK C B n) (hp : p ≤ 601) : Wd L xs d y_16 (0, [(0, .ref 101), (1, .int (nI p))], [], MH C t, sl) (Rt (some (.int (bif atL B n p then 1 else 0))) (MH C t) sl) nX := by
  have h6 := T.2.1
  by_cases hn : p < n
  · have hb := (T.2.2 p hn).1
    refine w_p (pc1 := 1) rfl rfl ?_
    refine w_f (a := 38) (b := 4) (bN_lt_f (a := p) (b := 0) (by omega) (by omega) (by omega)) rfl rfl ?_
    refine w_p (pc1 := 5) rfl rfl ?_
    refine w_p (pc1 := 6) rfl rfl ?_
    refine w_m0 (pc1 := 9) (st1 := .int (nI (n)) :: _) rfl rfl (h_gIe rfl rfl rfl rfl rfl (T.1)) rfl ?_
    refine w_f (a := 38) (b := 12) (bN_ge_f (a := p) (b := n) (by omega) (by omega) (by omega)) rfl rfl ?_
    refine w_p (pc1 := 13) rfl rfl ?_
    refine w_m0 (pc1 := 16) rfl rfl (h_gC rfl rfl rfl rfl) rfl ?_
    refine w_p (pc1 := 17) rfl rfl ?_
    refine w_m0 (pc1 := 18) (st1 := .int (sb (B p)) :: _) rfl rfl (n_ble (e := p) rfl rfl (by decide) rfl (by omega) ((T.2.2 p hn).2)) rfl ?_
    refine w_p (pc1 := 20) (st1 := .int 97 :: _) rfl rfl ?_
    refine w_b (a := 38) (b := 23) rfl rfl (fun c20 => ?_) (fun c20 => ?_)
    · replace c20 := ck_lt_t (n := 97) rfl c20
      refine w_p (pc1 := 39) (st1 := .int 0 :: _) rfl rfl ?_
      refine w_r rfl rfl rfl (fun _ _ => rfl) rfl ?_
      exact ⟨by first | rw [atL, isL_y hb c20 c31, decide_eq_true hn]; rfl | rw [atL, isL_n1 hb c20, Bool.and_false]; rfl | rw [atL, isL_n2 hb c31, Bool.and_false]; rfl, rfl, rfl⟩
    · replace c20 := ck_lt_f (n := 97) rfl c20
      refine w_p (pc1 := 24) rfl rfl ?_
      refine w_m0 (pc1 := 27) rfl rfl (h_gC rfl rfl rfl rfl) rfl ?_
      refine w_p (pc1 := 28) rfl rfl ?_
      refine w_m0 (pc1 := 29) (st1 := .int (sb (B p)) :: _) rfl rfl (n_ble (e := p) rfl rfl (by decide) rfl (by omega) ((T.2.2 p hn).2)) rfl ?_
      refine w_p (pc1 := 31) (st1 := .int 122 :: _) rfl rfl ?_
      refine w_b (a := 38) (b := 34) rfl rfl (fun c31 => ?_) (fun c31 => ?_)
      · replace c31 := ck_gt_t (n := 122) rfl c31
        refine w_p (pc1 := 39) (st1 := .int 0 :: _) rfl rfl ?_
        refine w_r rfl rfl rfl (fun _ _ => rfl) rfl ?_
        exact ⟨by first | rw [atL, isL_y hb c20 c31, decide_eq_true hn]; rfl | rw [atL, isL_n1 hb c20, Bool.and_false]; rfl | rw [atL, isL_n2 hb c31, Bool.and_false]; rfl, rfl, rfl⟩
      · replace c31 := ck_gt_f (n := 122) rfl c31
        refine w_p (pc1 := 35) (st1 := .int 1 :: _) rfl rfl ?_
        refine w_p (pc1 := 39) rfl rfl ?_
        refine w_r rfl rfl rfl (fun _ _ => rfl) rfl ?_
        exact ⟨by first | rw [atL, isL_y hb c20 c31, decide_eq_true hn]; rfl | rw [atL, isL_n1 hb c20, Bool.and_false]; rfl | rw [atL, isL_n2 hb c31, Bool.and_false]; rfl, rfl, rfl⟩
  · skip
    refine w_p (pc1 := 1) rfl rfl ?_
    refine w_f (a := 38) (b := 4) (bN_lt_f (a := p) (b := 0) (by omega) (by omega) (by omega)) rfl rfl ?_
    refine w_p (pc1 := 5) rfl rfl ?_
    refine w_p (pc1 := 6) rfl rfl ?_
    refine w_m0 (pc1 := 9) (st1 := .int (nI (n)) :: _) rfl rfl (h_gIe rfl rfl rfl rfl rfl (T.1)) rfl ?_
    refine w_t (a := 38) (b := 12) (bN_ge_t (a := p) (b := n) (by omega) (by omega) (by omega)) rfl rfl ?_
    refine w_p (pc1 := 39) (st1 := .int 0 :: _) rfl rfl ?_
    refine w_r rfl rfl rfl (fun _ _ => rfl) rfl ?_
    exact ⟨by rw [atL, decide_eq_false hn]; rfl, rfl, rfl⟩
set_option maxRecDepth 100000 in
theorem m_16t (T : tpK C B n) (hp : p ≤ 601) (h : atL B n p = true) : Wd L xs d y_16 (0, [(0, .ref 101), (1, .int (nI p))], [], MH C t, sl) (Rt (some (.int 1)) (MH C t) sl) nX := by
  have z := m_16 (L := L) (xs := xs) (t := t) (d := d) (sl := sl) T hp
  rw [h] at z
  exact z
set_option maxRecDepth 100000 in
theorem m_16f (T : tpK C B n) (hp : p ≤ 601) (h : atL B n p = false) : Wd L xs d y_16 (0, [(0, .ref 101), (1, .int (nI p))], [], MH C t, sl) (Rt (some (.int 0)) (MH C t) sl) nX := by
  have z := m_16 (L := L) (xs := xs) (t := t) (d := d) (sl := sl) T hp
  rw [h] at z
  exact z
set_option maxRecDepth 100000 in
theorem m_17 (T : tpK C B n) (hp : p ≤ 601) : Wd L xs d y_17 (0, [(0, .ref 101), (1, .int (nI p))], [], MH C t, sl) (Rt (some (.int (bif atF B n p then 1 else 0))) (MH C t) sl) nX := by
  have h6 := T.2.1
  by_cases hn : p < n
  · have hb := (T.2.2 p hn).1
    refine w_p (pc1 := 1) rfl rfl ?_
    refine w_f (a := 38) (b := 4) (bN_lt_f (a := p) (b := 0) (by omega) (by omega) (by omega)) rfl rfl ?_
    refine w_p (pc1 := 5) rfl rfl ?_
    refine w_p (pc1 := 6) rfl rfl ?_
    refine w_m0 (pc1 := 9) (st1 := .int (nI (n)) :: _) rfl rfl (h_gIe rfl rfl rfl rfl rfl (T.1)) rfl ?_
    refine w_f (a := 38) (b := 12) (bN_ge_f (a := p) (b := n) (by omega) (by omega) (by omega)) rfl rfl ?_
    refine w_p (pc1 := 13) rfl rfl ?_
    refine w_m0 (pc1 := 16) rfl rfl (h_gC rfl rfl rfl rfl) rfl ?_
    refine w_p (pc1 := 17) rfl rfl ?_
    refine w_m0 (pc1 := 18) (st1 := .int (sb (B p)) :: _) rfl rfl (n_ble (e := p) rfl rfl (by decide) rfl (by omega) ((T.2.2 p hn).2)) rfl ?_
    refine w_p (pc1 := 20) (st1 := .int 48 :: _) rfl rfl ?_
    refine w_b (a := 38) (b := 23) rfl rfl (fun c20 => ?_) (fun c20 => ?_)
    · replace c20 := ck_lt_t (n := 48) rfl c20
      refine w_p (pc1 := 39) (st1 := .int 0 :: _) rfl rfl ?_
      refine w_r rfl rfl rfl (fun _ _ => rfl) rfl ?_
      exact ⟨by first | rw [atF, isF_y hb c20 c31, decide_eq_true hn]; rfl | rw [atF, isF_n1 hb c20, Bool.and_false]; rfl | rw [atF, isF_n2 hb c31, Bool.and_false]; rfl, rfl, rfl⟩
    · replace c20 := ck_lt_f (n := 48) rfl c20
      refine w_p (pc1 := 24) rfl rfl ?_
      refine w_m0 (pc1 := 27) rfl rfl (h_gC rfl rfl rfl rfl) rfl ?_
      refine w_p (pc1 := 28) rfl rfl ?_
      refine w_m0 (pc1 := 29) (st1 := .int (sb (B p)) :: _) rfl rfl (n_ble (e := p) rfl rfl (by decide) rfl (by omega) ((T.2.2 p hn).2)) rfl ?_
      refine w_p (pc1 := 31) (st1 := .int 57 :: _) rfl rfl ?_
      refine w_b (a := 38) (b := 34) rfl rfl (fun c31 => ?_) (fun c31 => ?_)
      · replace c31 := ck_gt_t (n := 57) rfl c31
        refine w_p (pc1 := 39) (st1 := .int 0 :: _) rfl rfl ?_
        refine w_r rfl rfl rfl (fun _ _ => rfl) rfl ?_
        exact ⟨by first | rw [atF, isF_y hb c20 c31, decide_eq_true hn]; rfl | rw [atF, isF_n1 hb c20, Bool.and_false]; rfl | rw [atF, isF_n2 hb c31, Bool.and_false]; rfl, rfl, rfl⟩
      · replace c31 := ck_gt_f (n := 57) rfl c31
        refine w_p (pc1 := 35) (st1 := .int 1 :: _) rfl rfl ?_
        refine w_p (pc1 := 39) rfl rfl ?_
        refine w_r rfl rfl rfl (fun _ _ => rfl) rfl ?_
        exact ⟨by first | rw [atF, isF_y hb c20 c31, decide_eq_true hn]; rfl | rw [atF, isF_n1 hb c20, Bool.and_false]; rfl | rw [atF, isF_n2 hb c31, Bool.and_false]; rfl, rfl, rfl⟩
  · skip
    refine w_p (pc1 := 1) rfl rfl ?_
    refine w_f (a := 38) (b := 4) (bN_lt_f (a := p) (b := 0) (by omega) (by omega) (by omega)) rfl rfl ?_
    refine w_p (pc1 := 5) rfl rfl ?_
    refine w_p (pc1 := 6) rfl rfl ?_
    refine w_m0 (pc1 := 9) (st1 := .int (nI (n)) :: _) rfl rfl (h_gIe rfl rfl rfl rfl rfl (T.1)) rfl ?_
    refine w_t (a := 38) (b := 12) (bN_ge_t (a := p) (b := n) (by omega) (by omega) (by omega)) rfl rfl ?_
    refine w_p (pc1 := 39) (st1 := .int 0 :: _) rfl rfl ?_
    refine w_r rfl rfl rfl (fun _ _ => rfl) rfl ?_
    exact ⟨by rw [atF, decide_eq_false hn]; rfl, rfl, rfl⟩
set_option maxRecDepth 100000 in
theorem m_17t (T : tpK C B n) (hp : p ≤ 601) (h : atF B n p = true) : Wd L xs d y_17 (0, [(0, .ref 101), (1, .int (nI p))], [], MH C t, sl) (Rt (some (.int 1)) (MH C t) sl) nX := by
  have z := m_17 (L := L) (xs := xs) (t := t) (d := d) (sl := sl) T hp
  rw [h] at z
  exact z
set_option maxRecDepth 100000 in
theorem m_17f (T : tpK C B n) (hp : p ≤ 601) (h : atF B n p = false) : Wd L xs d y_17 (0, [(0, .ref 101), (1, .int (nI p))], [], MH C t, sl) (Rt (some (.int 0)) (MH C t) sl) nX := by
  have z := m_17 (L := L) (xs := xs) (t := t) (d := d) (sl := sl) T hp
  rw [h] at z
  exact z
set_option maxRecDepth 100000 in
theorem lp_14 {x : Int32} (T : tpK C B n) : ∀ f p : Nat, p + f = n → Wd L xs d y_14 (2, [(2, .int (nI p)), (0, .ref 101), (1, .int x)], [], MH C t, sl) (Rt (some (.int (nI (adv (atW B n) f p)))) (MH C t) sl) nX
  | 0, p, hf => by
    have h6 := T.2.1
    obtain rfl : p = n := by omega
    refine w_p (pc1 := 3) rfl rfl ?_
    refine w_p (pc1 := 4) rfl rfl ?_
    refine w_m0 (pc1 := 7) (st1 := .int (nI (p)) :: _) rfl rfl (h_gIe rfl rfl rfl rfl rfl (T.1)) rfl ?_
    refine w_t (a := 38) (b := 10) (bN_ge_t (a := p) (b := p) (by omega) (by omega) (by omega)) rfl rfl ?_
    refine w_p (pc1 := 39) rfl rfl ?_
    refine w_r rfl rfl rfl (fun _ _ => rfl) cr_int ?_
    exact ⟨rfl, rfl, rfl⟩
  | f + 1, p, hf => by
    have h6 := T.2.1
    have hn : p < n := by omega
    have hb := (T.2.2 p hn).1
    by_cases h32 : B p = 32
    · rw [adv, show atW B n p = true by simp [atW, isW, hn, h32], cond_true]
      refine w_p (pc1 := 3) rfl rfl ?_
      refine w_p (pc1 := 4) rfl rfl ?_
      refine w_m0 (pc1 := 7) (st1 := .int (nI (n)) :: _) rfl rfl (h_gIe rfl rfl rfl rfl rfl (T.1)) rfl ?_
      refine w_f (a := 38) (b := 10) (bN_ge_f (a := p) (b := n) (by omega) (by omega) (by omega)) rfl rfl ?_
      refine w_p (pc1 := 11) rfl rfl ?_
      refine w_m0 (pc1 := 14) rfl rfl (h_gC rfl rfl rfl rfl) rfl ?_
      refine w_p (pc1 := 15) rfl rfl ?_
      refine w_m0 (pc1 := 16) (st1 := .int (sb (B p)) :: _) rfl rfl (n_ble (e := p) rfl rfl (by decide) rfl (by omega) ((T.2.2 p hn).2)) rfl ?_
      refine w_p (pc1 := 18) (st1 := .int 32 :: _) rfl rfl ?_
      refine w_t (a := 32) (b := 21) (cb_eq_t (by exact sb_eq h32 (by decide))) rfl rfl ?_
      refine w_iinc (pc1 := 35) (u := nI (p)) (z := nI (p + 1)) (al1 := [(2, .int (nI (p + 1))), (0, .ref 101), (1, _)]) rfl rfl rfl nK_1 rfl rfl ?_
      refine w_p (pc1 := 2) rfl rfl ?_
      exact lp_14 T f (p + 1) (by omega)
    · by_cases h10 : B p = 10
      · rw [adv, show atW B n p = true by simp [atW, isW, hn, h10], cond_true]
        refine w_p (pc1 := 3) rfl rfl ?_
        refine w_p (pc1 := 4) rfl rfl ?_
        refine w_m0 (pc1 := 7) (st1 := .int (nI (n)) :: _) rfl rfl (h_gIe rfl rfl rfl rfl rfl (T.1)) rfl ?_
        refine w_f (a := 38) (b := 10) (bN_ge_f (a := p) (b := n) (by omega) (by omega) (by omega)) rfl rfl ?_
        refine w_p (pc1 := 11) rfl rfl ?_
        refine w_m0 (pc1 := 14) rfl rfl (h_gC rfl rfl rfl rfl) rfl ?_
        refine w_p (pc1 := 15) rfl rfl ?_
        refine w_m0 (pc1 := 16) (st1 := .int (sb (B p)) :: _) rfl rfl (n_ble (e := p) rfl rfl (by decide) rfl (by omega) ((T.2.2 p hn).2)) rfl ?_
        refine w_p (pc1 := 18) (st1 := .int 32 :: _) rfl rfl ?_
        refine w_f (a := 32) (b := 21) (cb_eq_f (by exact sb_ne hb (by decide) h32)) rfl rfl ?_
        refine w_p (pc1 := 22) rfl rfl ?_
        refine w_m0 (pc1 := 25) rfl rfl (h_gC rfl rfl rfl rfl) rfl ?_
        refine w_p (pc1 := 26) rfl rfl ?_
        refine w_m0 (pc1 := 27) (st1 := .int (sb (B p)) :: _) rfl rfl (n_ble (e := p) rfl rfl (by decide) rfl (by omega) ((T.2.2 p hn).2)) rfl ?_
        refine w_p (pc1 := 29) (st1 := .int 10 :: _) rfl rfl ?_
        refine w_f (a := 38) (b := 32) (cb_ne_f (by exact sb_eq h10 (by decide))) rfl rfl ?_
        refine w_iinc (pc1 := 35) (u := nI (p)) (z := nI (p + 1)) (al1 := [(2, .int (nI (p + 1))), (0, .ref 101), (1, _)]) rfl rfl rfl nK_1 rfl rfl ?_
        refine w_p (pc1 := 2) rfl rfl ?_
        exact lp_14 T f (p + 1) (by omega)
      · rw [adv, show atW B n p = false by simp [atW, isW, h32, h10], cond_false]
        refine w_p (pc1 := 3) rfl rfl ?_
        refine w_p (pc1 := 4) rfl rfl ?_
        refine w_m0 (pc1 := 7) (st1 := .int (nI (n)) :: _) rfl rfl (h_gIe rfl rfl rfl rfl rfl (T.1)) rfl ?_
        refine w_f (a := 38) (b := 10) (bN_ge_f (a := p) (b := n) (by omega) (by omega) (by omega)) rfl rfl ?_
        refine w_p (pc1 := 11) rfl rfl ?_
        refine w_m0 (pc1 := 14) rfl rfl (h_gC rfl rfl rfl rfl) rfl ?_
        refine w_p (pc1 := 15) rfl rfl ?_
        refine w_m0 (pc1 := 16) (st1 := .int (sb (B p)) :: _) rfl rfl (n_ble (e := p) rfl rfl (by decide) rfl (by omega) ((T.2.2 p hn).2)) rfl ?_
        refine w_p (pc1 := 18) (st1 := .int 32 :: _) rfl rfl ?_
        refine w_f (a := 32) (b := 21) (cb_eq_f (by exact sb_ne hb (by decide) h32)) rfl rfl ?_
        refine w_p (pc1 := 22) rfl rfl ?_
        refine w_m0 (pc1 := 25) rfl rfl (h_gC rfl rfl rfl rfl) rfl ?_
        refine w_p (pc1 := 26) rfl rfl ?_
        refine w_m0 (pc1 := 27) (st1 := .int (sb (B p)) :: _) rfl rfl (n_ble (e := p) rfl rfl (by decide) rfl (by omega) ((T.2.2 p hn).2)) rfl ?_
        refine w_p (pc1 := 29) (st1 := .int 10 :: _) rfl rfl ?_
        refine w_t (a := 38) (b := 32) (cb_ne_t (by exact sb_ne hb (by decide) h10)) rfl rfl ?_
        refine w_p (pc1 := 39) rfl rfl ?_
        refine w_r rfl rfl rfl (fun _ _ => rfl) cr_int ?_
        exact ⟨rfl, rfl, rfl⟩
set_option maxRecDepth 100000 in
theorem m_14 (T : tpK C B n) (hp : p ≤ n) : Wd L xs d y_14 (0, [(0, .ref 101), (1, .int (nI p))], [], MH C t, sl) (Rt (some (.int (nI (adv (atW B n) (n - p) p)))) (MH C t) sl) nX := by
  refine w_p (pc1 := 1) rfl rfl ?_
  refine w_p (pc1 := 2) (al1 := [(2, .int (nI (p))), (0, .ref 101), (1, .int (nI (p)))]) rfl rfl ?_
  exact lp_14 T (n - p) p (by omega)
set_option maxRecDepth 100000 in
theorem lp_15a {s : Nat} (T : tpK C B n) : ∀ f p : Nat, p + f = n → Wd L xs (d + 1) y_15 (22, [(2, .int (nI p)), (0, .ref 101), (1, .int (nI s))], [], MH C t, sl) (Rt (some (.int (nI (adv (fun i => atL B n i || atF B n i) f p)))) (MH C t) sl) nX
  | 0, p, hf => by
    have h6 := T.2.1
    obtain rfl : p = n := by omega
    refine w_p (pc1 := 23) rfl rfl ?_
    refine w_p (pc1 := 24) rfl rfl ?_
    refine w_m0 (pc1 := 27) (st1 := .int (nI (p)) :: _) rfl rfl (h_gIe rfl rfl rfl rfl rfl (T.1)) rfl ?_
    refine w_t (a := 126) (b := 30) (bN_ge_t (a := p) (b := p) (by omega) (by omega) (by omega)) rfl rfl ?_
    refine w_p (pc1 := 127) rfl rfl ?_
    refine w_r rfl rfl rfl (fun _ _ => rfl) cr_int ?_
    exact ⟨rfl, rfl, rfl⟩
  | f + 1, p, hf => by
    have h6 := T.2.1
    rw [adv]
    cases hl : atL B n p with
    | true =>
      simp only [hl, Bool.true_or, cond_true]
      refine w_p (pc1 := 23) rfl rfl ?_
      refine w_p (pc1 := 24) rfl rfl ?_
      refine w_m0 (pc1 := 27) (st1 := .int (nI (n)) :: _) rfl rfl (h_gIe rfl rfl rfl rfl rfl (T.1)) rfl ?_
      refine w_f (a := 126) (b := 30) (bN_ge_f (a := p) (b := n) (by omega) (by omega) (by omega)) rfl rfl ?_
      refine w_p (pc1 := 31) rfl rfl ?_
      refine w_p (pc1 := 32) rfl rfl ?_
      refine w_je (pc1 := 35) (vs := [.ref 101, .int (nI (p))]) (rest := []) (st1 := [.int 1]) (m_16t (d := _) (sl := 0) T (by omega) hl) rfl rfl rfl (fun _ _ => rfl) rfl (by exact cl_v my_16 rfl rfl rfl (Nat.le_of_ble_eq_true rfl) rfl (MH_obj rfl rfl) rfl (by decide) rfl rfl) (by rfl) (Nat.le_of_ble_eq_true rfl) (Nat.le_of_ble_eq_true rfl) rfl (by rfl) ?_
      refine w_t (a := 46) (b := 38) rfl rfl rfl ?_
      refine w_iinc (pc1 := 49) (u := nI (p)) (z := nI (p + 1)) (al1 := [(2, .int (nI (p + 1))), (0, .ref 101), (1, .int (nI (s)))]) rfl rfl rfl nK_1 rfl rfl ?_
      refine w_p (pc1 := 22) rfl rfl ?_
      exact lp_15a T f (p + 1) (by omega)
    | false =>
      cases hf2 : atF B n p with
      | true =>
        simp only [hl, hf2, Bool.false_or, cond_true]
        refine w_p (pc1 := 23) rfl rfl ?_
        refine w_p (pc1 := 24) rfl rfl ?_
        refine w_m0 (pc1 := 27) (st1 := .int (nI (n)) :: _) rfl rfl (h_gIe rfl rfl rfl rfl rfl (T.1)) rfl ?_
        refine w_f (a := 126) (b := 30) (bN_ge_f (a := p) (b := n) (by omega) (by omega) (by omega)) rfl rfl ?_
        refine w_p (pc1 := 31) rfl rfl ?_
        refine w_p (pc1 := 32) rfl rfl ?_
        refine w_je (pc1 := 35) (vs := [.ref 101, .int (nI (p))]) (rest := []) (st1 := [.int 0]) (m_16f (d := _) (sl := 0) T (by omega) hl) rfl rfl rfl (fun _ _ => rfl) rfl (by exact cl_v my_16 rfl rfl rfl (Nat.le_of_ble_eq_true rfl) rfl (MH_obj rfl rfl) rfl (by decide) rfl rfl) (by rfl) (Nat.le_of_ble_eq_true rfl) (Nat.le_of_ble_eq_true rfl) rfl (by rfl) ?_
        refine w_f (a := 46) (b := 38) rfl rfl rfl ?_
        refine w_p (pc1 := 39) rfl rfl ?_
        refine w_p (pc1 := 40) rfl rfl ?_
        refine w_je (pc1 := 43) (vs := [.ref 101, .int (nI (p))]) (rest := []) (st1 := [.int 1]) (m_17t (d := _) (sl := 0) T (by omega) hf2) rfl rfl rfl (fun _ _ => rfl) rfl (by exact cl_v my_17 rfl rfl rfl (Nat.le_of_ble_eq_true rfl) rfl (MH_obj rfl rfl) rfl (by decide) rfl rfl) (by rfl) (Nat.le_of_ble_eq_true rfl) (Nat.le_of_ble_eq_true rfl) rfl (by rfl) ?_
        refine w_f (a := 126) (b := 46) rfl rfl rfl ?_
        refine w_iinc (pc1 := 49) (u := nI (p)) (z := nI (p + 1)) (al1 := [(2, .int (nI (p + 1))), (0, .ref 101), (1, .int (nI (s)))]) rfl rfl rfl nK_1 rfl rfl ?_
        refine w_p (pc1 := 22) rfl rfl ?_
        exact lp_15a T f (p + 1) (by omega)
      | false =>
        simp only [hl, hf2, Bool.false_or, cond_false]
        refine w_p (pc1 := 23) rfl rfl ?_
        refine w_p (pc1 := 24) rfl rfl ?_
        refine w_m0 (pc1 := 27) (st1 := .int (nI (n)) :: _) rfl rfl (h_gIe rfl rfl rfl rfl rfl (T.1)) rfl ?_
        refine w_f (a := 126) (b := 30) (bN_ge_f (a := p) (b := n) (by omega) (by omega) (by omega)) rfl rfl ?_
        refine w_p (pc1 := 31) rfl rfl ?_
        refine w_p (pc1 := 32) rfl rfl ?_
        refine w_je (pc1 := 35) (vs := [.ref 101, .int (nI (p))]) (rest := []) (st1 := [.int 0]) (m_16f (d := _) (sl := 0) T (by omega) hl) rfl rfl rfl (fun _ _ => rfl) rfl (by exact cl_v my_16 rfl rfl rfl (Nat.le_of_ble_eq_true rfl) rfl (MH_obj rfl rfl) rfl (by decide) rfl rfl) (by rfl) (Nat.le_of_ble_eq_true rfl) (Nat.le_of_ble_eq_true rfl) rfl (by rfl) ?_
        refine w_f (a := 46) (b := 38) rfl rfl rfl ?_
        refine w_p (pc1 := 39) rfl rfl ?_
        refine w_p (pc1 := 40) rfl rfl ?_
        refine w_je (pc1 := 43) (vs := [.ref 101, .int (nI (p))]) (rest := []) (st1 := [.int 0]) (m_17f (d := _) (sl := 0) T (by omega) hf2) rfl rfl rfl (fun _ _ => rfl) rfl (by exact cl_v my_17 rfl rfl rfl (Nat.le_of_ble_eq_true rfl) rfl (MH_obj rfl rfl) rfl (by decide) rfl rfl) (by rfl) (Nat.le_of_ble_eq_true rfl) (Nat.le_of_ble_eq_true rfl) rfl (by rfl) ?_
        refine w_t (a := 126) (b := 46) rfl rfl rfl ?_
        refine w_p (pc1 := 127) rfl rfl ?_
        refine w_r rfl rfl rfl (fun _ _ => rfl) cr_int ?_
        exact ⟨rfl, rfl, rfl⟩
set_option maxRecDepth 100000 in
theorem lp_15b {s : Nat} (T : tpK C B n) : ∀ f p : Nat, p + f = n → Wd L xs (d + 1) y_15 (60, [(2, .int (nI p)), (0, .ref 101), (1, .int (nI s))], [], MH C t, sl) (Rt (some (.int (nI (adv (atF B n) f p)))) (MH C t) sl) nX
  | 0, p, hf => by
    have h6 := T.2.1
    obtain rfl : p = n := by omega
    refine w_p (pc1 := 61) rfl rfl ?_
    refine w_p (pc1 := 62) rfl rfl ?_
    refine w_m0 (pc1 := 65) (st1 := .int (nI (p)) :: _) rfl rfl (h_gIe rfl rfl rfl rfl rfl (T.1)) rfl ?_
    refine w_t (a := 126) (b := 68) (bN_ge_t (a := p) (b := p) (by omega) (by omega) (by omega)) rfl rfl ?_
    refine w_p (pc1 := 127) rfl rfl ?_
    refine w_r rfl rfl rfl (fun _ _ => rfl) cr_int ?_
    exact ⟨rfl, rfl, rfl⟩
  | f + 1, p, hf => by
    have h6 := T.2.1
    rw [adv]
    cases hf2 : atF B n p with
    | true =>
      simp only [cond_true]
      refine w_p (pc1 := 61) rfl rfl ?_
      refine w_p (pc1 := 62) rfl rfl ?_
      refine w_m0 (pc1 := 65) (st1 := .int (nI (n)) :: _) rfl rfl (h_gIe rfl rfl rfl rfl rfl (T.1)) rfl ?_
      refine w_f (a := 126) (b := 68) (bN_ge_f (a := p) (b := n) (by omega) (by omega) (by omega)) rfl rfl ?_
      refine w_p (pc1 := 69) rfl rfl ?_
      refine w_p (pc1 := 70) rfl rfl ?_
      refine w_je (pc1 := 73) (vs := [.ref 101, .int (nI (p))]) (rest := []) (st1 := [.int 1]) (m_17t (d := _) (sl := 0) T (by omega) hf2) rfl rfl rfl (fun _ _ => rfl) rfl (by exact cl_v my_17 rfl rfl rfl (Nat.le_of_ble_eq_true rfl) rfl (MH_obj rfl rfl) rfl (by decide) rfl rfl) (by rfl) (Nat.le_of_ble_eq_true rfl) (Nat.le_of_ble_eq_true rfl) rfl (by rfl) ?_
      refine w_f (a := 126) (b := 76) rfl rfl rfl ?_
      refine w_iinc (pc1 := 79) (u := nI (p)) (z := nI (p + 1)) (al1 := [(2, .int (nI (p + 1))), (0, .ref 101), (1, .int (nI (s)))]) rfl rfl rfl nK_1 rfl rfl ?_
      refine w_p (pc1 := 60) rfl rfl ?_
      exact lp_15b T f (p + 1) (by omega)
    | false =>
      simp only [cond_false]
      refine w_p (pc1 := 61) rfl rfl ?_
      refine w_p (pc1 := 62) rfl rfl ?_
      refine w_m0 (pc1 := 65) (st1 := .int (nI (n)) :: _) rfl rfl (h_gIe rfl rfl rfl rfl rfl (T.1)) rfl ?_
      refine w_f (a := 126) (b := 68) (bN_ge_f (a := p) (b := n) (by omega) (by omega) (by omega)) rfl rfl ?_
      refine w_p (pc1 := 69) rfl rfl ?_
      refine w_p (pc1 := 70) rfl rfl ?_
      refine w_je (pc1 := 73) (vs := [.ref 101, .int (nI (p))]) (rest := []) (st1 := [.int 0]) (m_17f (d := _) (sl := 0) T (by omega) hf2) rfl rfl rfl (fun _ _ => rfl) rfl (by exact cl_v my_17 rfl rfl rfl (Nat.le_of_ble_eq_true rfl) rfl (MH_obj rfl rfl) rfl (by decide) rfl rfl) (by rfl) (Nat.le_of_ble_eq_true rfl) (Nat.le_of_ble_eq_true rfl) rfl (by rfl) ?_
      refine w_t (a := 126) (b := 76) rfl rfl rfl ?_
      refine w_p (pc1 := 127) rfl rfl ?_
      refine w_r rfl rfl rfl (fun _ _ => rfl) cr_int ?_
      exact ⟨rfl, rfl, rfl⟩
/-! where a token ends -/
def tkE (B : Nat → Nat) (n p : Nat) : Nat := bif isL (B p) then adv (fun i => atL B n i || atF B n i) (n - (p + 1)) (p + 1) else bif isF (B p) then adv (atF B n) (n - (p + 1)) (p + 1) else if (B p = 60 ∨ B p = 62) ∧ p + 1 < n ∧ B (p + 1) = 61 then p + 2 else p + 1
set_option maxRecDepth 100000 in
theorem m_15 (T : tpK C B n) (hn : p < n) : Wd L xs (d + 1) y_15 (0, [(0, .ref 101), (1, .int (nI p))], [], MH C t, sl) (Rt (some (.int (nI (tkE B n p)))) (MH C t) sl) nX := by
  have h6 := T.2.1
  have hb := (T.2.2 p hn).1
  unfold tkE
  cases hl : isL (B p) with
  | true =>
    have hl2 : atL B n p = true := by rw [atL, hl, decide_eq_true hn]; rfl
    simp only [cond_true]
    refine w_p (pc1 := 1) rfl rfl ?_
    refine w_p (pc1 := 2) rfl rfl ?_
    refine w_m0 (pc1 := 5) (st1 := .int (nI (n)) :: _) rfl rfl (h_gIe rfl rfl rfl rfl rfl (T.1)) rfl ?_
    refine w_t (a := 10) (b := 8) (bN_lt_t (a := p) (b := n) (by omega) (by omega) (by omega)) rfl rfl ?_
    refine w_p (pc1 := 11) rfl rfl ?_
    refine w_p (pc1 := 12) (st1 := .int 1 :: _) rfl rfl ?_
    refine w_iadd (pc1 := 13) (u := nI (p)) (v := nI (1)) (z := nI (p + 1)) rfl (nK_add) rfl ?_
    refine w_p (pc1 := 14) (al1 := [(2, .int (nI (p + 1))), (0, .ref 101), (1, .int (nI (p)))]) rfl rfl ?_
    refine w_p (pc1 := 15) rfl rfl ?_
    refine w_p (pc1 := 16) rfl rfl ?_
    refine w_je (pc1 := 19) (vs := [.ref 101, .int (nI (p))]) (rest := []) (st1 := [.int 1]) (m_16t (d := _) (sl := 0) T (by omega) hl2) rfl rfl rfl (fun _ _ => rfl) rfl (by exact cl_v my_16 rfl rfl rfl (Nat.le_of_ble_eq_true rfl) rfl (MH_obj rfl rfl) rfl (by decide) rfl rfl) (by rfl) (Nat.le_of_ble_eq_true rfl) (Nat.le_of_ble_eq_true rfl) rfl (by rfl) ?_
    refine w_f (a := 52) (b := 22) rfl rfl rfl ?_
    exact lp_15a T (n - (p + 1)) (p + 1) (by omega)
  | false =>
    have hl2 : atL B n p = false := by rw [atL, hl, Bool.and_false]
    cases hf : isF (B p) with
    | true =>
      have hf2 : atF B n p = true := by rw [atF, hf, decide_eq_true hn]; rfl
      simp only [cond_true, cond_false]
      refine w_p (pc1 := 1) rfl rfl ?_
      refine w_p (pc1 := 2) rfl rfl ?_
      refine w_m0 (pc1 := 5) (st1 := .int (nI (n)) :: _) rfl rfl (h_gIe rfl rfl rfl rfl rfl (T.1)) rfl ?_
      refine w_t (a := 10) (b := 8) (bN_lt_t (a := p) (b := n) (by omega) (by omega) (by omega)) rfl rfl ?_
      refine w_p (pc1 := 11) rfl rfl ?_
      refine w_p (pc1 := 12) (st1 := .int 1 :: _) rfl rfl ?_
      refine w_iadd (pc1 := 13) (u := nI (p)) (v := nI (1)) (z := nI (p + 1)) rfl (nK_add) rfl ?_
      refine w_p (pc1 := 14) (al1 := [(2, .int (nI (p + 1))), (0, .ref 101), (1, .int (nI (p)))]) rfl rfl ?_
      refine w_p (pc1 := 15) rfl rfl ?_
      refine w_p (pc1 := 16) rfl rfl ?_
      refine w_je (pc1 := 19) (vs := [.ref 101, .int (nI (p))]) (rest := []) (st1 := [.int 0]) (m_16f (d := _) (sl := 0) T (by omega) hl2) rfl rfl rfl (fun _ _ => rfl) rfl (by exact cl_v my_16 rfl rfl rfl (Nat.le_of_ble_eq_true rfl) rfl (MH_obj rfl rfl) rfl (by decide) rfl rfl) (by rfl) (Nat.le_of_ble_eq_true rfl) (Nat.le_of_ble_eq_true rfl) rfl (by rfl) ?_
      refine w_t (a := 52) (b := 22) rfl rfl rfl ?_
      refine w_p (pc1 := 53) rfl rfl ?_
      refine w_p (pc1 := 54) rfl rfl ?_
      refine w_je (pc1 := 57) (vs := [.ref 101, .int (nI (p))]) (rest := []) (st1 := [.int 1]) (m_17t (d := _) (sl := 0) T (by omega) hf2) rfl rfl rfl (fun _ _ => rfl) rfl (by exact cl_v my_17 rfl rfl rfl (Nat.le_of_ble_eq_true rfl) rfl (MH_obj rfl rfl) rfl (by decide) rfl rfl) (by rfl) (Nat.le_of_ble_eq_true rfl) (Nat.le_of_ble_eq_true rfl) rfl (by rfl) ?_
      refine w_f (a := 82) (b := 60) rfl rfl rfl ?_
      exact lp_15b T (n - (p + 1)) (p + 1) (by omega)
    | false =>
      have hf2 : atF B n p = false := by rw [atF, hf, Bool.and_false]
      simp only [cond_false]
      by_cases h60 : B p = 60
      · have hs : B p = 60 ∨ B p = 62 := Or.inl h60
        by_cases h1 : p + 1 < n
        · have hb1 := (T.2.2 (p + 1) h1).1
          by_cases h61 : B (p + 1) = 61
          · rw [if_pos ⟨hs, h1, h61⟩]
            refine w_p (pc1 := 1) rfl rfl ?_
            refine w_p (pc1 := 2) rfl rfl ?_
            refine w_m0 (pc1 := 5) (st1 := .int (nI (n)) :: _) rfl rfl (h_gIe rfl rfl rfl rfl rfl (T.1)) rfl ?_
            refine w_t (a := 10) (b := 8) (bN_lt_t (a := p) (b := n) (by omega) (by omega) (by omega)) rfl rfl ?_
            refine w_p (pc1 := 11) rfl rfl ?_
            refine w_p (pc1 := 12) (st1 := .int 1 :: _) rfl rfl ?_
            refine w_iadd (pc1 := 13) (u := nI (p)) (v := nI (1)) (z := nI (p + 1)) rfl (nK_add) rfl ?_
            refine w_p (pc1 := 14) (al1 := [(2, .int (nI (p + 1))), (0, .ref 101), (1, .int (nI (p)))]) rfl rfl ?_
            refine w_p (pc1 := 15) rfl rfl ?_
            refine w_p (pc1 := 16) rfl rfl ?_
            refine w_je (pc1 := 19) (vs := [.ref 101, .int (nI (p))]) (rest := []) (st1 := [.int 0]) (m_16f (d := _) (sl := 0) T (by omega) hl2) rfl rfl rfl (fun _ _ => rfl) rfl (by exact cl_v my_16 rfl rfl rfl (Nat.le_of_ble_eq_true rfl) rfl (MH_obj rfl rfl) rfl (by decide) rfl rfl) (by rfl) (Nat.le_of_ble_eq_true rfl) (Nat.le_of_ble_eq_true rfl) rfl (by rfl) ?_
            refine w_t (a := 52) (b := 22) rfl rfl rfl ?_
            refine w_p (pc1 := 53) rfl rfl ?_
            refine w_p (pc1 := 54) rfl rfl ?_
            refine w_je (pc1 := 57) (vs := [.ref 101, .int (nI (p))]) (rest := []) (st1 := [.int 0]) (m_17f (d := _) (sl := 0) T (by omega) hf2) rfl rfl rfl (fun _ _ => rfl) rfl (by exact cl_v my_17 rfl rfl rfl (Nat.le_of_ble_eq_true rfl) rfl (MH_obj rfl rfl) rfl (by decide) rfl rfl) (by rfl) (Nat.le_of_ble_eq_true rfl) (Nat.le_of_ble_eq_true rfl) rfl (by rfl) ?_
            refine w_t (a := 82) (b := 60) rfl rfl rfl ?_
            refine w_p (pc1 := 83) rfl rfl ?_
            refine w_m0 (pc1 := 86) rfl rfl (h_gC rfl rfl rfl rfl) rfl ?_
            refine w_p (pc1 := 87) rfl rfl ?_
            refine w_m0 (pc1 := 88) (st1 := .int (sb (B p)) :: _) rfl rfl (n_ble (e := p) rfl rfl (by decide) rfl (by omega) ((T.2.2 p hn).2)) rfl ?_
            refine w_p (pc1 := 90) (st1 := .int 60 :: _) rfl rfl ?_
            refine w_t (a := 104) (b := 93) (cb_eq_t (by exact sb_eq h60 (by decide))) rfl rfl ?_
            refine w_p (pc1 := 105) rfl rfl ?_
            refine w_p (pc1 := 106) rfl rfl ?_
            refine w_m0 (pc1 := 109) (st1 := .int (nI (n)) :: _) rfl rfl (h_gIe rfl rfl rfl rfl rfl (T.1)) rfl ?_
            refine w_f (a := 126) (b := 112) (bN_ge_f (a := p + 1) (b := n) (by omega) (by omega) (by omega)) rfl rfl ?_
            refine w_p (pc1 := 113) rfl rfl ?_
            refine w_m0 (pc1 := 116) rfl rfl (h_gC rfl rfl rfl rfl) rfl ?_
            refine w_p (pc1 := 117) rfl rfl ?_
            refine w_m0 (pc1 := 118) (st1 := .int (sb (B (p + 1))) :: _) rfl rfl (n_ble (e := p + 1) rfl rfl (by decide) rfl (by omega) ((T.2.2 (p + 1) h1).2)) rfl ?_
            refine w_p (pc1 := 120) (st1 := .int 61 :: _) rfl rfl ?_
            refine w_f (a := 126) (b := 123) (cb_ne_f (by exact sb_eq h61 (by decide))) rfl rfl ?_
            refine w_iinc (pc1 := 126) (u := nI (p + 1)) (z := nI (p + 1 + 1)) (al1 := [(2, .int (nI (p + 1 + 1))), (0, .ref 101), (1, .int (nI (p)))]) rfl rfl rfl nK_1 rfl rfl ?_
            refine w_p (pc1 := 127) rfl rfl ?_
            refine w_r rfl rfl rfl (fun _ _ => rfl) cr_int ?_
            exact ⟨rfl, rfl, rfl⟩
          · rw [if_neg (fun e => h61 e.2.2)]
            refine w_p (pc1 := 1) rfl rfl ?_
            refine w_p (pc1 := 2) rfl rfl ?_
            refine w_m0 (pc1 := 5) (st1 := .int (nI (n)) :: _) rfl rfl (h_gIe rfl rfl rfl rfl rfl (T.1)) rfl ?_
            refine w_t (a := 10) (b := 8) (bN_lt_t (a := p) (b := n) (by omega) (by omega) (by omega)) rfl rfl ?_
            refine w_p (pc1 := 11) rfl rfl ?_
            refine w_p (pc1 := 12) (st1 := .int 1 :: _) rfl rfl ?_
            refine w_iadd (pc1 := 13) (u := nI (p)) (v := nI (1)) (z := nI (p + 1)) rfl (nK_add) rfl ?_
            refine w_p (pc1 := 14) (al1 := [(2, .int (nI (p + 1))), (0, .ref 101), (1, .int (nI (p)))]) rfl rfl ?_
            refine w_p (pc1 := 15) rfl rfl ?_
            refine w_p (pc1 := 16) rfl rfl ?_
            refine w_je (pc1 := 19) (vs := [.ref 101, .int (nI (p))]) (rest := []) (st1 := [.int 0]) (m_16f (d := _) (sl := 0) T (by omega) hl2) rfl rfl rfl (fun _ _ => rfl) rfl (by exact cl_v my_16 rfl rfl rfl (Nat.le_of_ble_eq_true rfl) rfl (MH_obj rfl rfl) rfl (by decide) rfl rfl) (by rfl) (Nat.le_of_ble_eq_true rfl) (Nat.le_of_ble_eq_true rfl) rfl (by rfl) ?_
            refine w_t (a := 52) (b := 22) rfl rfl rfl ?_
            refine w_p (pc1 := 53) rfl rfl ?_
            refine w_p (pc1 := 54) rfl rfl ?_
            refine w_je (pc1 := 57) (vs := [.ref 101, .int (nI (p))]) (rest := []) (st1 := [.int 0]) (m_17f (d := _) (sl := 0) T (by omega) hf2) rfl rfl rfl (fun _ _ => rfl) rfl (by exact cl_v my_17 rfl rfl rfl (Nat.le_of_ble_eq_true rfl) rfl (MH_obj rfl rfl) rfl (by decide) rfl rfl) (by rfl) (Nat.le_of_ble_eq_true rfl) (Nat.le_of_ble_eq_true rfl) rfl (by rfl) ?_
            refine w_t (a := 82) (b := 60) rfl rfl rfl ?_
            refine w_p (pc1 := 83) rfl rfl ?_
            refine w_m0 (pc1 := 86) rfl rfl (h_gC rfl rfl rfl rfl) rfl ?_
            refine w_p (pc1 := 87) rfl rfl ?_
            refine w_m0 (pc1 := 88) (st1 := .int (sb (B p)) :: _) rfl rfl (n_ble (e := p) rfl rfl (by decide) rfl (by omega) ((T.2.2 p hn).2)) rfl ?_
            refine w_p (pc1 := 90) (st1 := .int 60 :: _) rfl rfl ?_
            refine w_t (a := 104) (b := 93) (cb_eq_t (by exact sb_eq h60 (by decide))) rfl rfl ?_
            refine w_p (pc1 := 105) rfl rfl ?_
            refine w_p (pc1 := 106) rfl rfl ?_
            refine w_m0 (pc1 := 109) (st1 := .int (nI (n)) :: _) rfl rfl (h_gIe rfl rfl rfl rfl rfl (T.1)) rfl ?_
            refine w_f (a := 126) (b := 112) (bN_ge_f (a := p + 1) (b := n) (by omega) (by omega) (by omega)) rfl rfl ?_
            refine w_p (pc1 := 113) rfl rfl ?_
            refine w_m0 (pc1 := 116) rfl rfl (h_gC rfl rfl rfl rfl) rfl ?_
            refine w_p (pc1 := 117) rfl rfl ?_
            refine w_m0 (pc1 := 118) (st1 := .int (sb (B (p + 1))) :: _) rfl rfl (n_ble (e := p + 1) rfl rfl (by decide) rfl (by omega) ((T.2.2 (p + 1) h1).2)) rfl ?_
            refine w_p (pc1 := 120) (st1 := .int 61 :: _) rfl rfl ?_
            refine w_t (a := 126) (b := 123) (cb_ne_t (by exact sb_ne hb1 (by decide) h61)) rfl rfl ?_
            refine w_p (pc1 := 127) rfl rfl ?_
            refine w_r rfl rfl rfl (fun _ _ => rfl) cr_int ?_
            exact ⟨rfl, rfl, rfl⟩
        · rw [if_neg (fun e => h1 e.2.1)]
          refine w_p (pc1 := 1) rfl rfl ?_
          refine w_p (pc1 := 2) rfl rfl ?_
          refine w_m0 (pc1 := 5) (st1 := .int (nI (n)) :: _) rfl rfl (h_gIe rfl rfl rfl rfl rfl (T.1)) rfl ?_
          refine w_t (a := 10) (b := 8) (bN_lt_t (a := p) (b := n) (by omega) (by omega) (by omega)) rfl rfl ?_
          refine w_p (pc1 := 11) rfl rfl ?_
          refine w_p (pc1 := 12) (st1 := .int 1 :: _) rfl rfl ?_
          refine w_iadd (pc1 := 13) (u := nI (p)) (v := nI (1)) (z := nI (p + 1)) rfl (nK_add) rfl ?_
          refine w_p (pc1 := 14) (al1 := [(2, .int (nI (p + 1))), (0, .ref 101), (1, .int (nI (p)))]) rfl rfl ?_
          refine w_p (pc1 := 15) rfl rfl ?_
          refine w_p (pc1 := 16) rfl rfl ?_
          refine w_je (pc1 := 19) (vs := [.ref 101, .int (nI (p))]) (rest := []) (st1 := [.int 0]) (m_16f (d := _) (sl := 0) T (by omega) hl2) rfl rfl rfl (fun _ _ => rfl) rfl (by exact cl_v my_16 rfl rfl rfl (Nat.le_of_ble_eq_true rfl) rfl (MH_obj rfl rfl) rfl (by decide) rfl rfl) (by rfl) (Nat.le_of_ble_eq_true rfl) (Nat.le_of_ble_eq_true rfl) rfl (by rfl) ?_
          refine w_t (a := 52) (b := 22) rfl rfl rfl ?_
          refine w_p (pc1 := 53) rfl rfl ?_
          refine w_p (pc1 := 54) rfl rfl ?_
          refine w_je (pc1 := 57) (vs := [.ref 101, .int (nI (p))]) (rest := []) (st1 := [.int 0]) (m_17f (d := _) (sl := 0) T (by omega) hf2) rfl rfl rfl (fun _ _ => rfl) rfl (by exact cl_v my_17 rfl rfl rfl (Nat.le_of_ble_eq_true rfl) rfl (MH_obj rfl rfl) rfl (by decide) rfl rfl) (by rfl) (Nat.le_of_ble_eq_true rfl) (Nat.le_of_ble_eq_true rfl) rfl (by rfl) ?_
          refine w_t (a := 82) (b := 60) rfl rfl rfl ?_
          refine w_p (pc1 := 83) rfl rfl ?_
          refine w_m0 (pc1 := 86) rfl rfl (h_gC rfl rfl rfl rfl) rfl ?_
          refine w_p (pc1 := 87) rfl rfl ?_
          refine w_m0 (pc1 := 88) (st1 := .int (sb (B p)) :: _) rfl rfl (n_ble (e := p) rfl rfl (by decide) rfl (by omega) ((T.2.2 p hn).2)) rfl ?_
          refine w_p (pc1 := 90) (st1 := .int 60 :: _) rfl rfl ?_
          refine w_t (a := 104) (b := 93) (cb_eq_t (by exact sb_eq h60 (by decide))) rfl rfl ?_
          refine w_p (pc1 := 105) rfl rfl ?_
          refine w_p (pc1 := 106) rfl rfl ?_
          refine w_m0 (pc1 := 109) (st1 := .int (nI (n)) :: _) rfl rfl (h_gIe rfl rfl rfl rfl rfl (T.1)) rfl ?_
          refine w_t (a := 126) (b := 112) (bN_ge_t (a := p + 1) (b := n) (by omega) (by omega) (by omega)) rfl rfl ?_
          refine w_p (pc1 := 127) rfl rfl ?_
          refine w_r rfl rfl rfl (fun _ _ => rfl) cr_int ?_
          exact ⟨rfl, rfl, rfl⟩
      · by_cases h62 : B p = 62
        · have hs : B p = 60 ∨ B p = 62 := Or.inr h62
          by_cases h1 : p + 1 < n
          · have hb1 := (T.2.2 (p + 1) h1).1
            by_cases h61 : B (p + 1) = 61
            · rw [if_pos ⟨hs, h1, h61⟩]
              refine w_p (pc1 := 1) rfl rfl ?_
              refine w_p (pc1 := 2) rfl rfl ?_
              refine w_m0 (pc1 := 5) (st1 := .int (nI (n)) :: _) rfl rfl (h_gIe rfl rfl rfl rfl rfl (T.1)) rfl ?_
              refine w_t (a := 10) (b := 8) (bN_lt_t (a := p) (b := n) (by omega) (by omega) (by omega)) rfl rfl ?_
              refine w_p (pc1 := 11) rfl rfl ?_
              refine w_p (pc1 := 12) (st1 := .int 1 :: _) rfl rfl ?_
              refine w_iadd (pc1 := 13) (u := nI (p)) (v := nI (1)) (z := nI (p + 1)) rfl (nK_add) rfl ?_
              refine w_p (pc1 := 14) (al1 := [(2, .int (nI (p + 1))), (0, .ref 101), (1, .int (nI (p)))]) rfl rfl ?_
              refine w_p (pc1 := 15) rfl rfl ?_
              refine w_p (pc1 := 16) rfl rfl ?_
              refine w_je (pc1 := 19) (vs := [.ref 101, .int (nI (p))]) (rest := []) (st1 := [.int 0]) (m_16f (d := _) (sl := 0) T (by omega) hl2) rfl rfl rfl (fun _ _ => rfl) rfl (by exact cl_v my_16 rfl rfl rfl (Nat.le_of_ble_eq_true rfl) rfl (MH_obj rfl rfl) rfl (by decide) rfl rfl) (by rfl) (Nat.le_of_ble_eq_true rfl) (Nat.le_of_ble_eq_true rfl) rfl (by rfl) ?_
              refine w_t (a := 52) (b := 22) rfl rfl rfl ?_
              refine w_p (pc1 := 53) rfl rfl ?_
              refine w_p (pc1 := 54) rfl rfl ?_
              refine w_je (pc1 := 57) (vs := [.ref 101, .int (nI (p))]) (rest := []) (st1 := [.int 0]) (m_17f (d := _) (sl := 0) T (by omega) hf2) rfl rfl rfl (fun _ _ => rfl) rfl (by exact cl_v my_17 rfl rfl rfl (Nat.le_of_ble_eq_true rfl) rfl (MH_obj rfl rfl) rfl (by decide) rfl rfl) (by rfl) (Nat.le_of_ble_eq_true rfl) (Nat.le_of_ble_eq_true rfl) rfl (by rfl) ?_
              refine w_t (a := 82) (b := 60) rfl rfl rfl ?_
              refine w_p (pc1 := 83) rfl rfl ?_
              refine w_m0 (pc1 := 86) rfl rfl (h_gC rfl rfl rfl rfl) rfl ?_
              refine w_p (pc1 := 87) rfl rfl ?_
              refine w_m0 (pc1 := 88) (st1 := .int (sb (B p)) :: _) rfl rfl (n_ble (e := p) rfl rfl (by decide) rfl (by omega) ((T.2.2 p hn).2)) rfl ?_
              refine w_p (pc1 := 90) (st1 := .int 60 :: _) rfl rfl ?_
              refine w_f (a := 104) (b := 93) (cb_eq_f (by exact sb_ne hb (by decide) h60)) rfl rfl ?_
              refine w_p (pc1 := 94) rfl rfl ?_
              refine w_m0 (pc1 := 97) rfl rfl (h_gC rfl rfl rfl rfl) rfl ?_
              refine w_p (pc1 := 98) rfl rfl ?_
              refine w_m0 (pc1 := 99) (st1 := .int (sb (B p)) :: _) rfl rfl (n_ble (e := p) rfl rfl (by decide) rfl (by omega) ((T.2.2 p hn).2)) rfl ?_
              refine w_p (pc1 := 101) (st1 := .int 62 :: _) rfl rfl ?_
              refine w_f (a := 126) (b := 104) (cb_ne_f (by exact sb_eq h62 (by decide))) rfl rfl ?_
              refine w_p (pc1 := 105) rfl rfl ?_
              refine w_p (pc1 := 106) rfl rfl ?_
              refine w_m0 (pc1 := 109) (st1 := .int (nI (n)) :: _) rfl rfl (h_gIe rfl rfl rfl rfl rfl (T.1)) rfl ?_
              refine w_f (a := 126) (b := 112) (bN_ge_f (a := p + 1) (b := n) (by omega) (by omega) (by omega)) rfl rfl ?_
              refine w_p (pc1 := 113) rfl rfl ?_
              refine w_m0 (pc1 := 116) rfl rfl (h_gC rfl rfl rfl rfl) rfl ?_
              refine w_p (pc1 := 117) rfl rfl ?_
              refine w_m0 (pc1 := 118) (st1 := .int (sb (B (p + 1))) :: _) rfl rfl (n_ble (e := p + 1) rfl rfl (by decide) rfl (by omega) ((T.2.2 (p + 1) h1).2)) rfl ?_
              refine w_p (pc1 := 120) (st1 := .int 61 :: _) rfl rfl ?_
              refine w_f (a := 126) (b := 123) (cb_ne_f (by exact sb_eq h61 (by decide))) rfl rfl ?_
              refine w_iinc (pc1 := 126) (u := nI (p + 1)) (z := nI (p + 1 + 1)) (al1 := [(2, .int (nI (p + 1 + 1))), (0, .ref 101), (1, .int (nI (p)))]) rfl rfl rfl nK_1 rfl rfl ?_
              refine w_p (pc1 := 127) rfl rfl ?_
              refine w_r rfl rfl rfl (fun _ _ => rfl) cr_int ?_
              exact ⟨rfl, rfl, rfl⟩
            · rw [if_neg (fun e => h61 e.2.2)]
              refine w_p (pc1 := 1) rfl rfl ?_
              refine w_p (pc1 := 2) rfl rfl ?_
              refine w_m0 (pc1 := 5) (st1 := .int (nI (n)) :: _) rfl rfl (h_gIe rfl rfl rfl rfl rfl (T.1)) rfl ?_
              refine w_t (a := 10) (b := 8) (bN_lt_t (a := p) (b := n) (by omega) (by omega) (by omega)) rfl rfl ?_
              refine w_p (pc1 := 11) rfl rfl ?_
              refine w_p (pc1 := 12) (st1 := .int 1 :: _) rfl rfl ?_
              refine w_iadd (pc1 := 13) (u := nI (p)) (v := nI (1)) (z := nI (p + 1)) rfl (nK_add) rfl ?_
              refine w_p (pc1 := 14) (al1 := [(2, .int (nI (p + 1))), (0, .ref 101), (1, .int (nI (p)))]) rfl rfl ?_
              refine w_p (pc1 := 15) rfl rfl ?_
              refine w_p (pc1 := 16) rfl rfl ?_
              refine w_je (pc1 := 19) (vs := [.ref 101, .int (nI (p))]) (rest := []) (st1 := [.int 0]) (m_16f (d := _) (sl := 0) T (by omega) hl2) rfl rfl rfl (fun _ _ => rfl) rfl (by exact cl_v my_16 rfl rfl rfl (Nat.le_of_ble_eq_true rfl) rfl (MH_obj rfl rfl) rfl (by decide) rfl rfl) (by rfl) (Nat.le_of_ble_eq_true rfl) (Nat.le_of_ble_eq_true rfl) rfl (by rfl) ?_
              refine w_t (a := 52) (b := 22) rfl rfl rfl ?_
              refine w_p (pc1 := 53) rfl rfl ?_
              refine w_p (pc1 := 54) rfl rfl ?_
              refine w_je (pc1 := 57) (vs := [.ref 101, .int (nI (p))]) (rest := []) (st1 := [.int 0]) (m_17f (d := _) (sl := 0) T (by omega) hf2) rfl rfl rfl (fun _ _ => rfl) rfl (by exact cl_v my_17 rfl rfl rfl (Nat.le_of_ble_eq_true rfl) rfl (MH_obj rfl rfl) rfl (by decide) rfl rfl) (by rfl) (Nat.le_of_ble_eq_true rfl) (Nat.le_of_ble_eq_true rfl) rfl (by rfl) ?_
              refine w_t (a := 82) (b := 60) rfl rfl rfl ?_
              refine w_p (pc1 := 83) rfl rfl ?_
              refine w_m0 (pc1 := 86) rfl rfl (h_gC rfl rfl rfl rfl) rfl ?_
              refine w_p (pc1 := 87) rfl rfl ?_
              refine w_m0 (pc1 := 88) (st1 := .int (sb (B p)) :: _) rfl rfl (n_ble (e := p) rfl rfl (by decide) rfl (by omega) ((T.2.2 p hn).2)) rfl ?_
              refine w_p (pc1 := 90) (st1 := .int 60 :: _) rfl rfl ?_
              refine w_f (a := 104) (b := 93) (cb_eq_f (by exact sb_ne hb (by decide) h60)) rfl rfl ?_
              refine w_p (pc1 := 94) rfl rfl ?_
              refine w_m0 (pc1 := 97) rfl rfl (h_gC rfl rfl rfl rfl) rfl ?_
              refine w_p (pc1 := 98) rfl rfl ?_
              refine w_m0 (pc1 := 99) (st1 := .int (sb (B p)) :: _) rfl rfl (n_ble (e := p) rfl rfl (by decide) rfl (by omega) ((T.2.2 p hn).2)) rfl ?_
              refine w_p (pc1 := 101) (st1 := .int 62 :: _) rfl rfl ?_
              refine w_f (a := 126) (b := 104) (cb_ne_f (by exact sb_eq h62 (by decide))) rfl rfl ?_
              refine w_p (pc1 := 105) rfl rfl ?_
              refine w_p (pc1 := 106) rfl rfl ?_
              refine w_m0 (pc1 := 109) (st1 := .int (nI (n)) :: _) rfl rfl (h_gIe rfl rfl rfl rfl rfl (T.1)) rfl ?_
              refine w_f (a := 126) (b := 112) (bN_ge_f (a := p + 1) (b := n) (by omega) (by omega) (by omega)) rfl rfl ?_
              refine w_p (pc1 := 113) rfl rfl ?_
              refine w_m0 (pc1 := 116) rfl rfl (h_gC rfl rfl rfl rfl) rfl ?_
              refine w_p (pc1 := 117) rfl rfl ?_
              refine w_m0 (pc1 := 118) (st1 := .int (sb (B (p + 1))) :: _) rfl rfl (n_ble (e := p + 1) rfl rfl (by decide) rfl (by omega) ((T.2.2 (p + 1) h1).2)) rfl ?_
              refine w_p (pc1 := 120) (st1 := .int 61 :: _) rfl rfl ?_
              refine w_t (a := 126) (b := 123) (cb_ne_t (by exact sb_ne hb1 (by decide) h61)) rfl rfl ?_
              refine w_p (pc1 := 127) rfl rfl ?_
              refine w_r rfl rfl rfl (fun _ _ => rfl) cr_int ?_
              exact ⟨rfl, rfl, rfl⟩
          · rw [if_neg (fun e => h1 e.2.1)]
            refine w_p (pc1 := 1) rfl rfl ?_
            refine w_p (pc1 := 2) rfl rfl ?_
            refine w_m0 (pc1 := 5) (st1 := .int (nI (n)) :: _) rfl rfl (h_gIe rfl rfl rfl rfl rfl (T.1)) rfl ?_
            refine w_t (a := 10) (b := 8) (bN_lt_t (a := p) (b := n) (by omega) (by omega) (by omega)) rfl rfl ?_
            refine w_p (pc1 := 11) rfl rfl ?_
            refine w_p (pc1 := 12) (st1 := .int 1 :: _) rfl rfl ?_
            refine w_iadd (pc1 := 13) (u := nI (p)) (v := nI (1)) (z := nI (p + 1)) rfl (nK_add) rfl ?_
            refine w_p (pc1 := 14) (al1 := [(2, .int (nI (p + 1))), (0, .ref 101), (1, .int (nI (p)))]) rfl rfl ?_
            refine w_p (pc1 := 15) rfl rfl ?_
            refine w_p (pc1 := 16) rfl rfl ?_
            refine w_je (pc1 := 19) (vs := [.ref 101, .int (nI (p))]) (rest := []) (st1 := [.int 0]) (m_16f (d := _) (sl := 0) T (by omega) hl2) rfl rfl rfl (fun _ _ => rfl) rfl (by exact cl_v my_16 rfl rfl rfl (Nat.le_of_ble_eq_true rfl) rfl (MH_obj rfl rfl) rfl (by decide) rfl rfl) (by rfl) (Nat.le_of_ble_eq_true rfl) (Nat.le_of_ble_eq_true rfl) rfl (by rfl) ?_
            refine w_t (a := 52) (b := 22) rfl rfl rfl ?_
            refine w_p (pc1 := 53) rfl rfl ?_
            refine w_p (pc1 := 54) rfl rfl ?_
            refine w_je (pc1 := 57) (vs := [.ref 101, .int (nI (p))]) (rest := []) (st1 := [.int 0]) (m_17f (d := _) (sl := 0) T (by omega) hf2) rfl rfl rfl (fun _ _ => rfl) rfl (by exact cl_v my_17 rfl rfl rfl (Nat.le_of_ble_eq_true rfl) rfl (MH_obj rfl rfl) rfl (by decide) rfl rfl) (by rfl) (Nat.le_of_ble_eq_true rfl) (Nat.le_of_ble_eq_true rfl) rfl (by rfl) ?_
            refine w_t (a := 82) (b := 60) rfl rfl rfl ?_
            refine w_p (pc1 := 83) rfl rfl ?_
            refine w_m0 (pc1 := 86) rfl rfl (h_gC rfl rfl rfl rfl) rfl ?_
            refine w_p (pc1 := 87) rfl rfl ?_
            refine w_m0 (pc1 := 88) (st1 := .int (sb (B p)) :: _) rfl rfl (n_ble (e := p) rfl rfl (by decide) rfl (by omega) ((T.2.2 p hn).2)) rfl ?_
            refine w_p (pc1 := 90) (st1 := .int 60 :: _) rfl rfl ?_
            refine w_f (a := 104) (b := 93) (cb_eq_f (by exact sb_ne hb (by decide) h60)) rfl rfl ?_
            refine w_p (pc1 := 94) rfl rfl ?_
            refine w_m0 (pc1 := 97) rfl rfl (h_gC rfl rfl rfl rfl) rfl ?_
            refine w_p (pc1 := 98) rfl rfl ?_
            refine w_m0 (pc1 := 99) (st1 := .int (sb (B p)) :: _) rfl rfl (n_ble (e := p) rfl rfl (by decide) rfl (by omega) ((T.2.2 p hn).2)) rfl ?_
            refine w_p (pc1 := 101) (st1 := .int 62 :: _) rfl rfl ?_
            refine w_f (a := 126) (b := 104) (cb_ne_f (by exact sb_eq h62 (by decide))) rfl rfl ?_
            refine w_p (pc1 := 105) rfl rfl ?_
            refine w_p (pc1 := 106) rfl rfl ?_
            refine w_m0 (pc1 := 109) (st1 := .int (nI (n)) :: _) rfl rfl (h_gIe rfl rfl rfl rfl rfl (T.1)) rfl ?_
            refine w_t (a := 126) (b := 112) (bN_ge_t (a := p + 1) (b := n) (by omega) (by omega) (by omega)) rfl rfl ?_
            refine w_p (pc1 := 127) rfl rfl ?_
            refine w_r rfl rfl rfl (fun _ _ => rfl) cr_int ?_
            exact ⟨rfl, rfl, rfl⟩
        · rw [if_neg (fun e => by rcases e.1 with e | e <;> contradiction)]
          refine w_p (pc1 := 1) rfl rfl ?_
          refine w_p (pc1 := 2) rfl rfl ?_
          refine w_m0 (pc1 := 5) (st1 := .int (nI (n)) :: _) rfl rfl (h_gIe rfl rfl rfl rfl rfl (T.1)) rfl ?_
          refine w_t (a := 10) (b := 8) (bN_lt_t (a := p) (b := n) (by omega) (by omega) (by omega)) rfl rfl ?_
          refine w_p (pc1 := 11) rfl rfl ?_
          refine w_p (pc1 := 12) (st1 := .int 1 :: _) rfl rfl ?_
          refine w_iadd (pc1 := 13) (u := nI (p)) (v := nI (1)) (z := nI (p + 1)) rfl (nK_add) rfl ?_
          refine w_p (pc1 := 14) (al1 := [(2, .int (nI (p + 1))), (0, .ref 101), (1, .int (nI (p)))]) rfl rfl ?_
          refine w_p (pc1 := 15) rfl rfl ?_
          refine w_p (pc1 := 16) rfl rfl ?_
          refine w_je (pc1 := 19) (vs := [.ref 101, .int (nI (p))]) (rest := []) (st1 := [.int 0]) (m_16f (d := _) (sl := 0) T (by omega) hl2) rfl rfl rfl (fun _ _ => rfl) rfl (by exact cl_v my_16 rfl rfl rfl (Nat.le_of_ble_eq_true rfl) rfl (MH_obj rfl rfl) rfl (by decide) rfl rfl) (by rfl) (Nat.le_of_ble_eq_true rfl) (Nat.le_of_ble_eq_true rfl) rfl (by rfl) ?_
          refine w_t (a := 52) (b := 22) rfl rfl rfl ?_
          refine w_p (pc1 := 53) rfl rfl ?_
          refine w_p (pc1 := 54) rfl rfl ?_
          refine w_je (pc1 := 57) (vs := [.ref 101, .int (nI (p))]) (rest := []) (st1 := [.int 0]) (m_17f (d := _) (sl := 0) T (by omega) hf2) rfl rfl rfl (fun _ _ => rfl) rfl (by exact cl_v my_17 rfl rfl rfl (Nat.le_of_ble_eq_true rfl) rfl (MH_obj rfl rfl) rfl (by decide) rfl rfl) (by rfl) (Nat.le_of_ble_eq_true rfl) (Nat.le_of_ble_eq_true rfl) rfl (by rfl) ?_
          refine w_t (a := 82) (b := 60) rfl rfl rfl ?_
          refine w_p (pc1 := 83) rfl rfl ?_
          refine w_m0 (pc1 := 86) rfl rfl (h_gC rfl rfl rfl rfl) rfl ?_
          refine w_p (pc1 := 87) rfl rfl ?_
          refine w_m0 (pc1 := 88) (st1 := .int (sb (B p)) :: _) rfl rfl (n_ble (e := p) rfl rfl (by decide) rfl (by omega) ((T.2.2 p hn).2)) rfl ?_
          refine w_p (pc1 := 90) (st1 := .int 60 :: _) rfl rfl ?_
          refine w_f (a := 104) (b := 93) (cb_eq_f (by exact sb_ne hb (by decide) h60)) rfl rfl ?_
          refine w_p (pc1 := 94) rfl rfl ?_
          refine w_m0 (pc1 := 97) rfl rfl (h_gC rfl rfl rfl rfl) rfl ?_
          refine w_p (pc1 := 98) rfl rfl ?_
          refine w_m0 (pc1 := 99) (st1 := .int (sb (B p)) :: _) rfl rfl (n_ble (e := p) rfl rfl (by decide) rfl (by omega) ((T.2.2 p hn).2)) rfl ?_
          refine w_p (pc1 := 101) (st1 := .int 62 :: _) rfl rfl ?_
          refine w_t (a := 126) (b := 104) (cb_ne_t (by exact sb_ne hb (by decide) h62)) rfl rfl ?_
          refine w_p (pc1 := 127) rfl rfl ?_
          refine w_r rfl rfl rfl (fun _ _ => rfl) cr_int ?_
          exact ⟨rfl, rfl, rfl⟩
set_option maxRecDepth 100000 in
theorem m_15e (T : tpK C B n) : Wd L xs d y_15 (0, [(0, .ref 101), (1, .int (nI n))], [], MH C t, sl) (Rt (some (.int (nI n))) (MH C t) sl) nX := by
  have h6 := T.2.1
  refine w_p (pc1 := 1) rfl rfl ?_
  refine w_p (pc1 := 2) rfl rfl ?_
  refine w_m0 (pc1 := 5) (st1 := .int (nI (n)) :: _) rfl rfl (h_gIe rfl rfl rfl rfl rfl (T.1)) rfl ?_
  refine w_f (a := 10) (b := 8) (bN_lt_f (a := n) (b := n) (by omega) (by omega) (by omega)) rfl rfl ?_
  refine w_p (pc1 := 9) rfl rfl ?_
  refine w_r rfl rfl rfl (fun _ _ => rfl) cr_int ?_
  exact ⟨rfl, rfl, rfl⟩
end TAP
