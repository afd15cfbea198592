/-! THE STORE'S QUESTIONS -/
section STQ
variable {L : Nat} {xs : Nat → Int32} {C : co_T} {t : ab_H} {d sl : Nat}
/-! the first of n numbers from k that is so; how many of them are so -/
def fnd (p : Nat → Bool) : Nat → Nat → Int32
  | 0, _ => -1
  | n + 1, k => bif p k then nI k else fnd p n (k + 1)
def cnt (p : Nat → Bool) : Nat → Nat → Nat
  | 0, _ => 0
  | n + 1, k => (bif p k then 1 else 0) + cnt p n (k + 1)
set_option maxRecDepth 100000 in
theorem cnt_le (p : Nat → Bool) : ∀ n k, cnt p n k ≤ n
  | 0, _ => Nat.le_refl _
  | n + 1, k => by
    rw [cnt]
    have := cnt_le p n (k + 1)
    cases p k <;> simp <;> omega
def isT (C : co_T) (i : Nat) : Bool := !decide (C.2.1 7 i = 0)
def isR (C : co_T) (i : Nat) : Bool := (C.2.2 11 i).isSome
def isG (C : co_T) (i : Nat) : Bool := (C.2.2 12 i).isSome
set_option maxRecDepth 100000 in
theorem isT_f {k : Nat} (h : isT C k = false) : C.2.1 7 k = 0 := by simpa [isT] using h
set_option maxRecDepth 100000 in
theorem isT_t {k : Nat} (h : isT C k = true) : C.2.1 7 k ≠ 0 := by simpa [isT] using h
set_option maxRecDepth 100000 in
theorem isR_f {k : Nat} (h : isR C k = false) : C.2.2 11 k = none := by simpa [isR] using h
set_option maxRecDepth 100000 in
theorem isR_t {k : Nat} (h : isR C k = true) : ∃ r, C.2.2 11 k = some r := Option.isSome_iff_exists.mp h
set_option maxRecDepth 100000 in
theorem isG_f {k : Nat} (h : isG C k = false) : C.2.2 12 k = none := by simpa [isG] using h
set_option maxRecDepth 100000 in
theorem isG_t {k : Nat} (h : isG C k = true) : ∃ r, C.2.2 12 k = some r := Option.isSome_iff_exists.mp h
set_option maxRecDepth 100000 in
theorem m_33t {k : Nat} (hk : k < 6) (h : isT C k = true) : Wd L xs d y_33 (0, [(0, .ref 106), (1, .int (nI k))], [], MH C t, sl) (Rt (some (.int 1)) (MH C t) sl) nX := by
  refine w_p (pc1 := 1) rfl rfl ?_
  refine w_f (a := 25) (b := 4) (bN_lt_f (a := k) (b := 0) (by omega) (by omega) (by omega)) rfl rfl ?_
  refine w_p (pc1 := 5) rfl rfl ?_
  refine w_p (pc1 := 7) (st1 := .int 6 :: _) rfl rfl ?_
  refine w_f (a := 25) (b := 10) (bN_ge_f (a := k) (b := 6) (by omega) (by omega) (by omega)) rfl rfl ?_
  refine w_p (pc1 := 11) rfl rfl ?_
  refine w_m0 (pc1 := 14) rfl rfl (h_gC rfl rfl rfl rfl) rfl ?_
  refine w_p (pc1 := 15) rfl rfl ?_
  refine w_m0 (pc1 := 16) rfl rfl (n_ll (e := k) rfl rfl rfl (by omega)) rfl ?_
  refine w_p (pc1 := 17) (st1 := .long 0 :: _) rfl rfl ?_
  refine w_p (pc1 := 18) rfl rfl ?_
  refine w_f (a := 25) (b := 21) (lb_eq_f (by exact isT_t h)) rfl rfl ?_
  refine w_p (pc1 := 22) (st1 := .int 1 :: _) rfl rfl ?_
  refine w_p (pc1 := 26) rfl rfl ?_
  refine w_r rfl rfl rfl (fun _ _ => rfl) rfl ?_
  exact ⟨rfl, rfl, rfl⟩
set_option maxRecDepth 100000 in
theorem m_33n {k : Nat} (hk : k < 6) (h : isT C k = false) : Wd L xs d y_33 (0, [(0, .ref 106), (1, .int (nI k))], [], MH C t, sl) (Rt (some (.int 0)) (MH C t) sl) nX := by
  refine w_p (pc1 := 1) rfl rfl ?_
  refine w_f (a := 25) (b := 4) (bN_lt_f (a := k) (b := 0) (by omega) (by omega) (by omega)) rfl rfl ?_
  refine w_p (pc1 := 5) rfl rfl ?_
  refine w_p (pc1 := 7) (st1 := .int 6 :: _) rfl rfl ?_
  refine w_f (a := 25) (b := 10) (bN_ge_f (a := k) (b := 6) (by omega) (by omega) (by omega)) rfl rfl ?_
  refine w_p (pc1 := 11) rfl rfl ?_
  refine w_m0 (pc1 := 14) rfl rfl (h_gC rfl rfl rfl rfl) rfl ?_
  refine w_p (pc1 := 15) rfl rfl ?_
  refine w_m0 (pc1 := 16) rfl rfl (n_ll (e := k) rfl rfl rfl (by omega)) rfl ?_
  refine w_p (pc1 := 17) (st1 := .long 0 :: _) rfl rfl ?_
  refine w_p (pc1 := 18) rfl rfl ?_
  refine w_t (a := 25) (b := 21) (lb_eq_t (by exact isT_f h)) rfl rfl ?_
  refine w_p (pc1 := 26) (st1 := .int 0 :: _) rfl rfl ?_
  refine w_r rfl rfl rfl (fun _ _ => rfl) rfl ?_
  exact ⟨rfl, rfl, rfl⟩
set_option maxRecDepth 100000 in
theorem lp_32 {a : Int64} : ∀ n k : Nat, k + n = 6 → Wd L xs (d + 1) y_32 (2, [(3, .int (nI k)), (0, .ref 106), (1, .long a)], [], MH C t, sl) (Rt (some (.int (fnd (fun i => isT C i && decide (C.2.1 7 i = a)) n k))) (MH C t) sl) nX
  | 0, k, hk => by
    obtain rfl : k = 6 := by omega
    refine w_p (pc1 := 3) rfl rfl ?_
    refine w_p (pc1 := 5) (st1 := .int 6 :: _) rfl rfl ?_
    refine w_t (a := 35) (b := 8) (bN_ge_t (a := 6) (b := 6) (by omega) (by omega) (by omega)) rfl rfl ?_
    refine w_p (pc1 := 36) (st1 := .int (-1) :: _) rfl rfl ?_
    refine w_r rfl rfl rfl (fun _ _ => rfl) cr_int ?_
    exact ⟨rfl, rfl, rfl⟩
  | n + 1, k, hk => by
    cases hz : isT C k with
    | false =>
      have h0 : (isT C k && decide (C.2.1 7 k = a)) = false := by rw [hz]; rfl
      rw [fnd, h0, cond_false]
      refine w_p (pc1 := 3) rfl rfl ?_
      refine w_p (pc1 := 5) (st1 := .int 6 :: _) rfl rfl ?_
      refine w_f (a := 35) (b := 8) (bN_ge_f (a := k) (b := 6) (by omega) (by omega) (by omega)) rfl rfl ?_
      refine w_p (pc1 := 9) rfl rfl ?_
      refine w_p (pc1 := 10) rfl rfl ?_
      refine w_je (pc1 := 13) (vs := [.ref 106, .int (nI (k))]) (rest := []) (st1 := [.int 0]) (m_33n (d := _) (sl := 0) (by omega) hz) rfl rfl rfl (fun _ _ => rfl) rfl (by exact cl_v my_33 rfl rfl rfl (Nat.le_of_ble_eq_true rfl) rfl (MH_obj rfl rfl) rfl (by decide) rfl rfl) (by rfl) (Nat.le_of_ble_eq_true rfl) (Nat.le_of_ble_eq_true rfl) rfl (by rfl) ?_
      refine w_t (a := 29) (b := 16) rfl rfl rfl ?_
      refine w_iinc (pc1 := 32) (u := nI (k)) (z := nI (k + 1)) (al1 := [(3, .int (nI (k + 1))), (0, .ref 106), (1, _)]) rfl rfl rfl nK_1 rfl rfl ?_
      refine w_p (pc1 := 2) rfl rfl ?_
      exact lp_32 n (k + 1) (by omega)
    | true =>
      by_cases ha : C.2.1 7 k = a
      · have h0 : (isT C k && decide (C.2.1 7 k = a)) = true := by rw [hz, ha]; simp
        rw [fnd, h0, cond_true]
        refine w_p (pc1 := 3) rfl rfl ?_
        refine w_p (pc1 := 5) (st1 := .int 6 :: _) rfl rfl ?_
        refine w_f (a := 35) (b := 8) (bN_ge_f (a := k) (b := 6) (by omega) (by omega) (by omega)) rfl rfl ?_
        refine w_p (pc1 := 9) rfl rfl ?_
        refine w_p (pc1 := 10) rfl rfl ?_
        refine w_je (pc1 := 13) (vs := [.ref 106, .int (nI (k))]) (rest := []) (st1 := [.int 1]) (m_33t (d := _) (sl := 0) (by omega) hz) rfl rfl rfl (fun _ _ => rfl) rfl (by exact cl_v my_33 rfl rfl rfl (Nat.le_of_ble_eq_true rfl) rfl (MH_obj rfl rfl) rfl (by decide) rfl rfl) (by rfl) (Nat.le_of_ble_eq_true rfl) (Nat.le_of_ble_eq_true rfl) rfl (by rfl) ?_
        refine w_f (a := 29) (b := 16) rfl rfl rfl ?_
        refine w_p (pc1 := 17) rfl rfl ?_
        refine w_m0 (pc1 := 20) rfl rfl (h_gC rfl rfl rfl rfl) rfl ?_
        refine w_p (pc1 := 21) rfl rfl ?_
        refine w_m0 (pc1 := 22) rfl rfl (n_ll (e := k) rfl rfl rfl (by omega)) rfl ?_
        refine w_p (pc1 := 23) rfl rfl ?_
        refine w_p (pc1 := 24) rfl rfl ?_
        refine w_f (a := 29) (b := 27) (lb_ne_f (by exact ha)) rfl rfl ?_
        refine w_p (pc1 := 28) rfl rfl ?_
        refine w_r rfl rfl rfl (fun _ _ => rfl) cr_int ?_
        exact ⟨rfl, rfl, rfl⟩
      · have h0 : (isT C k && decide (C.2.1 7 k = a)) = false := by rw [hz]; simp [ha]
        rw [fnd, h0, cond_false]
        refine w_p (pc1 := 3) rfl rfl ?_
        refine w_p (pc1 := 5) (st1 := .int 6 :: _) rfl rfl ?_
        refine w_f (a := 35) (b := 8) (bN_ge_f (a := k) (b := 6) (by omega) (by omega) (by omega)) rfl rfl ?_
        refine w_p (pc1 := 9) rfl rfl ?_
        refine w_p (pc1 := 10) rfl rfl ?_
        refine w_je (pc1 := 13) (vs := [.ref 106, .int (nI (k))]) (rest := []) (st1 := [.int 1]) (m_33t (d := _) (sl := 0) (by omega) hz) rfl rfl rfl (fun _ _ => rfl) rfl (by exact cl_v my_33 rfl rfl rfl (Nat.le_of_ble_eq_true rfl) rfl (MH_obj rfl rfl) rfl (by decide) rfl rfl) (by rfl) (Nat.le_of_ble_eq_true rfl) (Nat.le_of_ble_eq_true rfl) rfl (by rfl) ?_
        refine w_f (a := 29) (b := 16) rfl rfl rfl ?_
        refine w_p (pc1 := 17) rfl rfl ?_
        refine w_m0 (pc1 := 20) rfl rfl (h_gC rfl rfl rfl rfl) rfl ?_
        refine w_p (pc1 := 21) rfl rfl ?_
        refine w_m0 (pc1 := 22) rfl rfl (n_ll (e := k) rfl rfl rfl (by omega)) rfl ?_
        refine w_p (pc1 := 23) rfl rfl ?_
        refine w_p (pc1 := 24) rfl rfl ?_
        refine w_t (a := 29) (b := 27) (lb_ne_t (by exact ha)) rfl rfl ?_
        refine w_iinc (pc1 := 32) (u := nI (k)) (z := nI (k + 1)) (al1 := [(3, .int (nI (k + 1))), (0, .ref 106), (1, _)]) rfl rfl rfl nK_1 rfl rfl ?_
        refine w_p (pc1 := 2) rfl rfl ?_
        exact lp_32 n (k + 1) (by omega)
set_option maxRecDepth 100000 in
theorem m_32 {a : Int64} : Wd L xs (d + 1) y_32 (0, [(0, .ref 106), (1, .long a)], [], MH C t, sl) (Rt (some (.int (fnd (fun i => isT C i && decide (C.2.1 7 i = a)) 6 0))) (MH C t) sl) nX := by
  refine w_p (pc1 := 1) (st1 := .int 0 :: _) rfl rfl ?_
  refine w_p (pc1 := 2) (al1 := [(3, .int 0), (0, .ref 106), (1, _)]) rfl rfl ?_
  exact lp_32 6 0 rfl
set_option maxRecDepth 100000 in
theorem lp_35 : ∀ n k : Nat, k + n = 6 → Wd L xs (d + 1) y_35 (2, [(1, .int (nI k)), (0, .ref 106)], [], MH C t, sl) (Rt (some (.int (fnd (fun i => !isT C i) n k))) (MH C t) sl) nX
  | 0, k, hk => by
    obtain rfl : k = 6 := by omega
    refine w_p (pc1 := 3) rfl rfl ?_
    refine w_p (pc1 := 5) (st1 := .int 6 :: _) rfl rfl ?_
    refine w_t (a := 24) (b := 8) (bN_ge_t (a := 6) (b := 6) (by omega) (by omega) (by omega)) rfl rfl ?_
    refine w_p (pc1 := 25) (st1 := .int (-1) :: _) rfl rfl ?_
    refine w_r rfl rfl rfl (fun _ _ => rfl) cr_int ?_
    exact ⟨rfl, rfl, rfl⟩
  | n + 1, k, hk => by
    cases hz : isT C k with
    | false =>
      have h0 : (!isT C k) = true := by rw [hz]; rfl
      rw [fnd, h0, cond_true]
      refine w_p (pc1 := 3) rfl rfl ?_
      refine w_p (pc1 := 5) (st1 := .int 6 :: _) rfl rfl ?_
      refine w_f (a := 24) (b := 8) (bN_ge_f (a := k) (b := 6) (by omega) (by omega) (by omega)) rfl rfl ?_
      refine w_p (pc1 := 9) rfl rfl ?_
      refine w_p (pc1 := 10) rfl rfl ?_
      refine w_je (pc1 := 13) (vs := [.ref 106, .int (nI (k))]) (rest := []) (st1 := [.int 0]) (m_33n (d := _) (sl := 0) (by omega) hz) rfl rfl rfl (fun _ _ => rfl) rfl (by exact cl_v my_33 rfl rfl rfl (Nat.le_of_ble_eq_true rfl) rfl (MH_obj rfl rfl) rfl (by decide) rfl rfl) (by rfl) (Nat.le_of_ble_eq_true rfl) (Nat.le_of_ble_eq_true rfl) rfl (by rfl) ?_
      refine w_f (a := 18) (b := 16) rfl rfl rfl ?_
      refine w_p (pc1 := 17) rfl rfl ?_
      refine w_r rfl rfl rfl (fun _ _ => rfl) cr_int ?_
      exact ⟨rfl, rfl, rfl⟩
    | true =>
      have h0 : (!isT C k) = false := by rw [hz]; rfl
      rw [fnd, h0, cond_false]
      refine w_p (pc1 := 3) rfl rfl ?_
      refine w_p (pc1 := 5) (st1 := .int 6 :: _) rfl rfl ?_
      refine w_f (a := 24) (b := 8) (bN_ge_f (a := k) (b := 6) (by omega) (by omega) (by omega)) rfl rfl ?_
      refine w_p (pc1 := 9) rfl rfl ?_
      refine w_p (pc1 := 10) rfl rfl ?_
      refine w_je (pc1 := 13) (vs := [.ref 106, .int (nI (k))]) (rest := []) (st1 := [.int 1]) (m_33t (d := _) (sl := 0) (by omega) hz) rfl rfl rfl (fun _ _ => rfl) rfl (by exact cl_v my_33 rfl rfl rfl (Nat.le_of_ble_eq_true rfl) rfl (MH_obj rfl rfl) rfl (by decide) rfl rfl) (by rfl) (Nat.le_of_ble_eq_true rfl) (Nat.le_of_ble_eq_true rfl) rfl (by rfl) ?_
      refine w_t (a := 18) (b := 16) rfl rfl rfl ?_
      refine w_iinc (pc1 := 21) (u := nI (k)) (z := nI (k + 1)) (al1 := [(1, .int (nI (k + 1))), (0, .ref 106)]) rfl rfl rfl nK_1 rfl rfl ?_
      refine w_p (pc1 := 2) rfl rfl ?_
      exact lp_35 n (k + 1) (by omega)
set_option maxRecDepth 100000 in
theorem m_35 : Wd L xs (d + 1) y_35 (0, [(0, .ref 106)], [], MH C t, sl) (Rt (some (.int (fnd (fun i => !isT C i) 6 0))) (MH C t) sl) nX := by
  refine w_p (pc1 := 1) (st1 := .int 0 :: _) rfl rfl ?_
  refine w_p (pc1 := 2) (al1 := [(1, .int 0), (0, .ref 106)]) rfl rfl ?_
  exact lp_35 6 0 rfl
set_option maxRecDepth 100000 in
theorem lp_36 : ∀ n k : Nat, k + n = 8 → Wd L xs d y_36 (2, [(1, .int (nI k)), (0, .ref 106)], [], MH C t, sl) (Rt (some (.int (fnd (fun i => !isG C i) n k))) (MH C t) sl) nX
  | 0, k, hk => by
    obtain rfl : k = 8 := by omega
    refine w_p (pc1 := 3) rfl rfl ?_
    refine w_p (pc1 := 5) (st1 := .int 8 :: _) rfl rfl ?_
    refine w_t (a := 25) (b := 8) (bN_ge_t (a := 8) (b := 8) (by omega) (by omega) (by omega)) rfl rfl ?_
    refine w_p (pc1 := 26) (st1 := .int (-1) :: _) rfl rfl ?_
    refine w_r rfl rfl rfl (fun _ _ => rfl) cr_int ?_
    exact ⟨rfl, rfl, rfl⟩
  | n + 1, k, hk => by
    cases hz : isG C k with
    | false =>
      have h0 : (!isG C k) = true := by rw [hz]; rfl
      rw [fnd, h0, cond_true]
      refine w_p (pc1 := 3) rfl rfl ?_
      refine w_p (pc1 := 5) (st1 := .int 8 :: _) rfl rfl ?_
      refine w_f (a := 25) (b := 8) (bN_ge_f (a := k) (b := 8) (by omega) (by omega) (by omega)) rfl rfl ?_
      refine w_p (pc1 := 9) rfl rfl ?_
      refine w_m0 (pc1 := 12) rfl rfl (h_gC rfl rfl rfl rfl) rfl ?_
      refine w_p (pc1 := 13) rfl rfl ?_
      refine w_m0 (pc1 := 14) rfl rfl (n_al (e := k) rfl rfl (by decide) rfl (by omega)) rfl ?_
      refine w_nn_n (a := 19) (b := 17) (by exact isG_f hz) rfl rfl rfl ?_
      refine w_p (pc1 := 18) rfl rfl ?_
      refine w_r rfl rfl rfl (fun _ _ => rfl) cr_int ?_
      exact ⟨rfl, rfl, rfl⟩
    | true =>
      have h0 : (!isG C k) = false := by rw [hz]; rfl
      obtain ⟨r, hr⟩ := isG_t hz
      rw [fnd, h0, cond_false]
      refine w_p (pc1 := 3) rfl rfl ?_
      refine w_p (pc1 := 5) (st1 := .int 8 :: _) rfl rfl ?_
      refine w_f (a := 25) (b := 8) (bN_ge_f (a := k) (b := 8) (by omega) (by omega) (by omega)) rfl rfl ?_
      refine w_p (pc1 := 9) rfl rfl ?_
      refine w_m0 (pc1 := 12) rfl rfl (h_gC rfl rfl rfl rfl) rfl ?_
      refine w_p (pc1 := 13) rfl rfl ?_
      refine w_m0 (pc1 := 14) rfl rfl (n_al (e := k) rfl rfl (by decide) rfl (by omega)) rfl ?_
      refine w_nn_s (a := 19) (b := 17) (by exact hr) rfl rfl rfl ?_
      refine w_iinc (pc1 := 22) (u := nI (k)) (z := nI (k + 1)) (al1 := [(1, .int (nI (k + 1))), (0, .ref 106)]) rfl rfl rfl nK_1 rfl rfl ?_
      refine w_p (pc1 := 2) rfl rfl ?_
      exact lp_36 n (k + 1) (by omega)
set_option maxRecDepth 100000 in
theorem m_36 : Wd L xs d y_36 (0, [(0, .ref 106)], [], MH C t, sl) (Rt (some (.int (fnd (fun i => !isG C i) 8 0))) (MH C t) sl) nX := by
  refine w_p (pc1 := 1) (st1 := .int 0 :: _) rfl rfl ?_
  refine w_p (pc1 := 2) (al1 := [(1, .int 0), (0, .ref 106)]) rfl rfl ?_
  exact lp_36 8 0 rfl
set_option maxRecDepth 100000 in
theorem lp_49 : ∀ n k : Nat, k + n = 24 → Wd L xs d y_49 (2, [(1, .int (nI k)), (0, .ref 106)], [], MH C t, sl) (Rt (some (.int (fnd (fun i => !isR C i) n k))) (MH C t) sl) nX
  | 0, k, hk => by
    obtain rfl : k = 24 := by omega
    refine w_p (pc1 := 3) rfl rfl ?_
    refine w_p (pc1 := 5) (st1 := .int 24 :: _) rfl rfl ?_
    refine w_t (a := 25) (b := 8) (bN_ge_t (a := 24) (b := 24) (by omega) (by omega) (by omega)) rfl rfl ?_
    refine w_p (pc1 := 26) (st1 := .int (-1) :: _) rfl rfl ?_
    refine w_r rfl rfl rfl (fun _ _ => rfl) cr_int ?_
    exact ⟨rfl, rfl, rfl⟩
  | n + 1, k, hk => by
    cases hz : isR C k with
    | false =>
      have h0 : (!isR C k) = true := by rw [hz]; rfl
      rw [fnd, h0, cond_true]
      refine w_p (pc1 := 3) rfl rfl ?_
      refine w_p (pc1 := 5) (st1 := .int 24 :: _) rfl rfl ?_
      refine w_f (a := 25) (b := 8) (bN_ge_f (a := k) (b := 24) (by omega) (by omega) (by omega)) rfl rfl ?_
      refine w_p (pc1 := 9) rfl rfl ?_
      refine w_m0 (pc1 := 12) rfl rfl (h_gC rfl rfl rfl rfl) rfl ?_
      refine w_p (pc1 := 13) rfl rfl ?_
      refine w_m0 (pc1 := 14) rfl rfl (n_al (e := k) rfl rfl (by decide) rfl (by omega)) rfl ?_
      refine w_nn_n (a := 19) (b := 17) (by exact isR_f hz) rfl rfl rfl ?_
      refine w_p (pc1 := 18) rfl rfl ?_
      refine w_r rfl rfl rfl (fun _ _ => rfl) cr_int ?_
      exact ⟨rfl, rfl, rfl⟩
    | true =>
      have h0 : (!isR C k) = false := by rw [hz]; rfl
      obtain ⟨r, hr⟩ := isR_t hz
      rw [fnd, h0, cond_false]
      refine w_p (pc1 := 3) rfl rfl ?_
      refine w_p (pc1 := 5) (st1 := .int 24 :: _) rfl rfl ?_
      refine w_f (a := 25) (b := 8) (bN_ge_f (a := k) (b := 24) (by omega) (by omega) (by omega)) rfl rfl ?_
      refine w_p (pc1 := 9) rfl rfl ?_
      refine w_m0 (pc1 := 12) rfl rfl (h_gC rfl rfl rfl rfl) rfl ?_
      refine w_p (pc1 := 13) rfl rfl ?_
      refine w_m0 (pc1 := 14) rfl rfl (n_al (e := k) rfl rfl (by decide) rfl (by omega)) rfl ?_
      refine w_nn_s (a := 19) (b := 17) (by exact hr) rfl rfl rfl ?_
      refine w_iinc (pc1 := 22) (u := nI (k)) (z := nI (k + 1)) (al1 := [(1, .int (nI (k + 1))), (0, .ref 106)]) rfl rfl rfl nK_1 rfl rfl ?_
      refine w_p (pc1 := 2) rfl rfl ?_
      exact lp_49 n (k + 1) (by omega)
set_option maxRecDepth 100000 in
theorem m_49 : Wd L xs d y_49 (0, [(0, .ref 106)], [], MH C t, sl) (Rt (some (.int (fnd (fun i => !isR C i) 24 0))) (MH C t) sl) nX := by
  refine w_p (pc1 := 1) (st1 := .int 0 :: _) rfl rfl ?_
  refine w_p (pc1 := 2) (al1 := [(1, .int 0), (0, .ref 106)]) rfl rfl ?_
  exact lp_49 24 0 rfl
set_option maxRecDepth 100000 in
theorem lp_41 {a : Int64} {b w : Nat} (hb : b < 6) (hw : C.1 8 b = nI w) (h6 : w ≤ 6) : ∀ n k : Nat, k + n = w → Wd L xs d y_41 (15, [(4, .int (nI k)), (0, .ref 106), (1, .int (nI b)), (2, .long a)], [], MH C t, sl) (Rt (some (.int (fnd (fun i => decide (C.2.1 9 (b * 6 + i) = a)) n k))) (MH C t) sl) nX
  | 0, k, hk => by
    obtain rfl : k = w := by omega
    refine w_p (pc1 := 17) rfl rfl ?_
    refine w_p (pc1 := 18) rfl rfl ?_
    refine w_m0 (pc1 := 21) rfl rfl (h_gC rfl rfl rfl rfl) rfl ?_
    refine w_p (pc1 := 22) rfl rfl ?_
    refine w_m0 (pc1 := 23) (st1 := .int (nI (k)) :: _) rfl rfl (n_ile (e := b) rfl rfl rfl (by omega) (hw)) rfl ?_
    refine w_t (a := 59) (b := 26) (bN_ge_t (a := k) (b := k) (by omega) (by omega) (by omega)) rfl rfl ?_
    refine w_p (pc1 := 60) (st1 := .int (-1) :: _) rfl rfl ?_
    refine w_r rfl rfl rfl (fun _ _ => rfl) cr_int ?_
    exact ⟨rfl, rfl, rfl⟩
  | n + 1, k, hk => by
    by_cases ha : C.2.1 9 (b * 6 + k) = a
    · have h0 : decide (C.2.1 9 (b * 6 + k) = a) = true := decide_eq_true ha
      rw [fnd, h0, cond_true]
      refine w_p (pc1 := 17) rfl rfl ?_
      refine w_p (pc1 := 18) rfl rfl ?_
      refine w_m0 (pc1 := 21) rfl rfl (h_gC rfl rfl rfl rfl) rfl ?_
      refine w_p (pc1 := 22) rfl rfl ?_
      refine w_m0 (pc1 := 23) (st1 := .int (nI (w)) :: _) rfl rfl (n_ile (e := b) rfl rfl rfl (by omega) (hw)) rfl ?_
      refine w_f (a := 59) (b := 26) (bN_ge_f (a := k) (b := w) (by omega) (by omega) (by omega)) rfl rfl ?_
      refine w_p (pc1 := 28) rfl rfl ?_
      refine w_p (pc1 := 30) (st1 := .int 6 :: _) rfl rfl ?_
      refine w_f (a := 59) (b := 33) (bN_ge_f (a := k) (b := 6) (by omega) (by omega) (by omega)) rfl rfl ?_
      refine w_p (pc1 := 34) rfl rfl ?_
      refine w_m0 (pc1 := 37) rfl rfl (h_gC rfl rfl rfl rfl) rfl ?_
      refine w_p (pc1 := 38) rfl rfl ?_
      refine w_p (pc1 := 40) (st1 := .int 6 :: _) rfl rfl ?_
      refine w_imul (pc1 := 41) (u := nI (b)) (v := nI (6)) (z := nI (b * 6)) rfl (nK_mul) rfl ?_
      refine w_p (pc1 := 43) rfl rfl ?_
      refine w_iadd (pc1 := 44) (u := nI (b * 6)) (v := nI (k)) (z := nI (b * 6 + k)) rfl (nK_add) rfl ?_
      refine w_m0 (pc1 := 45) rfl rfl (n_ll (e := b * 6 + k) rfl rfl rfl (by omega)) rfl ?_
      refine w_p (pc1 := 46) rfl rfl ?_
      refine w_p (pc1 := 47) rfl rfl ?_
      refine w_f (a := 53) (b := 50) (lb_ne_f (by exact ha)) rfl rfl ?_
      refine w_p (pc1 := 52) rfl rfl ?_
      refine w_r rfl rfl rfl (fun _ _ => rfl) cr_int ?_
      exact ⟨rfl, rfl, rfl⟩
    · have h0 : decide (C.2.1 9 (b * 6 + k) = a) = false := decide_eq_false ha
      rw [fnd, h0, cond_false]
      refine w_p (pc1 := 17) rfl rfl ?_
      refine w_p (pc1 := 18) rfl rfl ?_
      refine w_m0 (pc1 := 21) rfl rfl (h_gC rfl rfl rfl rfl) rfl ?_
      refine w_p (pc1 := 22) rfl rfl ?_
      refine w_m0 (pc1 := 23) (st1 := .int (nI (w)) :: _) rfl rfl (n_ile (e := b) rfl rfl rfl (by omega) (hw)) rfl ?_
      refine w_f (a := 59) (b := 26) (bN_ge_f (a := k) (b := w) (by omega) (by omega) (by omega)) rfl rfl ?_
      refine w_p (pc1 := 28) rfl rfl ?_
      refine w_p (pc1 := 30) (st1 := .int 6 :: _) rfl rfl ?_
      refine w_f (a := 59) (b := 33) (bN_ge_f (a := k) (b := 6) (by omega) (by omega) (by omega)) rfl rfl ?_
      refine w_p (pc1 := 34) rfl rfl ?_
      refine w_m0 (pc1 := 37) rfl rfl (h_gC rfl rfl rfl rfl) rfl ?_
      refine w_p (pc1 := 38) rfl rfl ?_
      refine w_p (pc1 := 40) (st1 := .int 6 :: _) rfl rfl ?_
      refine w_imul (pc1 := 41) (u := nI (b)) (v := nI (6)) (z := nI (b * 6)) rfl (nK_mul) rfl ?_
      refine w_p (pc1 := 43) rfl rfl ?_
      refine w_iadd (pc1 := 44) (u := nI (b * 6)) (v := nI (k)) (z := nI (b * 6 + k)) rfl (nK_add) rfl ?_
      refine w_m0 (pc1 := 45) rfl rfl (n_ll (e := b * 6 + k) rfl rfl rfl (by omega)) rfl ?_
      refine w_p (pc1 := 46) rfl rfl ?_
      refine w_p (pc1 := 47) rfl rfl ?_
      refine w_t (a := 53) (b := 50) (lb_ne_t (by exact ha)) rfl rfl ?_
      refine w_iinc (pc1 := 56) (u := nI (k)) (z := nI (k + 1)) (al1 := [(4, .int (nI (k + 1))), (0, .ref 106), (1, .int (nI (b))), (2, _)]) rfl rfl rfl nK_1 rfl rfl ?_
      refine w_p (pc1 := 15) rfl rfl ?_
      exact lp_41 hb hw h6 n (k + 1) (by omega)
set_option maxRecDepth 100000 in
theorem m_41 {a : Int64} {b w : Nat} (hb : b < 6) (hw : C.1 8 b = nI w) (h6 : w ≤ 6) : Wd L xs d y_41 (0, [(0, .ref 106), (1, .int (nI b)), (2, .long a)], [], MH C t, sl) (Rt (some (.int (fnd (fun i => decide (C.2.1 9 (b * 6 + i) = a)) w 0))) (MH C t) sl) nX := by
  refine w_p (pc1 := 1) rfl rfl ?_
  refine w_f (a := 10) (b := 4) (bN_lt_f (a := b) (b := 0) (by omega) (by omega) (by omega)) rfl rfl ?_
  refine w_p (pc1 := 5) rfl rfl ?_
  refine w_p (pc1 := 7) (st1 := .int 6 :: _) rfl rfl ?_
  refine w_t (a := 12) (b := 10) (bN_lt_t (a := b) (b := 6) (by omega) (by omega) (by omega)) rfl rfl ?_
  refine w_p (pc1 := 13) (st1 := .int 0 :: _) rfl rfl ?_
  refine w_p (pc1 := 15) (al1 := [(4, .int 0), (0, .ref 106), (1, .int (nI (b))), (2, _)]) rfl rfl ?_
  exact lp_41 hb hw h6 w 0 (by omega)
set_option maxRecDepth 100000 in
theorem lp_92 {a : Int64} {m : Nat} (hm : C.1 6 12 = nI m) (h6 : m ≤ 6) : ∀ n k : Nat, k + n = m → Wd L xs d y_92 (2, [(3, .int (nI k)), (0, .ref 106), (1, .long a)], [], MH C t, sl) (Rt (some (.int (fnd (fun i => decide (C.2.1 19 i = a)) n k))) (MH C t) sl) nX
  | 0, k, hk => by
    obtain rfl : k = m := by omega
    refine w_p (pc1 := 3) rfl rfl ?_
    refine w_p (pc1 := 4) rfl rfl ?_
    refine w_m0 (pc1 := 7) (st1 := .int (nI (k)) :: _) rfl rfl (h_gIe rfl rfl rfl rfl rfl (hm)) rfl ?_
    refine w_t (a := 35) (b := 10) (bN_ge_t (a := k) (b := k) (by omega) (by omega) (by omega)) rfl rfl ?_
    refine w_p (pc1 := 36) (st1 := .int (-1) :: _) rfl rfl ?_
    refine w_r rfl rfl rfl (fun _ _ => rfl) cr_int ?_
    exact ⟨rfl, rfl, rfl⟩
  | n + 1, k, hk => by
    by_cases ha : C.2.1 19 k = a
    · have h0 : decide (C.2.1 19 k = a) = true := decide_eq_true ha
      rw [fnd, h0, cond_true]
      refine w_p (pc1 := 3) rfl rfl ?_
      refine w_p (pc1 := 4) rfl rfl ?_
      refine w_m0 (pc1 := 7) (st1 := .int (nI (m)) :: _) rfl rfl (h_gIe rfl rfl rfl rfl rfl (hm)) rfl ?_
      refine w_f (a := 35) (b := 10) (bN_ge_f (a := k) (b := m) (by omega) (by omega) (by omega)) rfl rfl ?_
      refine w_p (pc1 := 11) rfl rfl ?_
      refine w_p (pc1 := 13) (st1 := .int 6 :: _) rfl rfl ?_
      refine w_f (a := 35) (b := 16) (bN_ge_f (a := k) (b := 6) (by omega) (by omega) (by omega)) rfl rfl ?_
      refine w_p (pc1 := 17) rfl rfl ?_
      refine w_m0 (pc1 := 20) rfl rfl (h_gC rfl rfl rfl rfl) rfl ?_
      refine w_p (pc1 := 21) rfl rfl ?_
      refine w_m0 (pc1 := 22) rfl rfl (n_ll (e := k) rfl rfl rfl (by omega)) rfl ?_
      refine w_p (pc1 := 23) rfl rfl ?_
      refine w_p (pc1 := 24) rfl rfl ?_
      refine w_f (a := 29) (b := 27) (lb_ne_f (by exact ha)) rfl rfl ?_
      refine w_p (pc1 := 28) rfl rfl ?_
      refine w_r rfl rfl rfl (fun _ _ => rfl) cr_int ?_
      exact ⟨rfl, rfl, rfl⟩
    · have h0 : decide (C.2.1 19 k = a) = false := decide_eq_false ha
      rw [fnd, h0, cond_false]
      refine w_p (pc1 := 3) rfl rfl ?_
      refine w_p (pc1 := 4) rfl rfl ?_
      refine w_m0 (pc1 := 7) (st1 := .int (nI (m)) :: _) rfl rfl (h_gIe rfl rfl rfl rfl rfl (hm)) rfl ?_
      refine w_f (a := 35) (b := 10) (bN_ge_f (a := k) (b := m) (by omega) (by omega) (by omega)) rfl rfl ?_
      refine w_p (pc1 := 11) rfl rfl ?_
      refine w_p (pc1 := 13) (st1 := .int 6 :: _) rfl rfl ?_
      refine w_f (a := 35) (b := 16) (bN_ge_f (a := k) (b := 6) (by omega) (by omega) (by omega)) rfl rfl ?_
      refine w_p (pc1 := 17) rfl rfl ?_
      refine w_m0 (pc1 := 20) rfl rfl (h_gC rfl rfl rfl rfl) rfl ?_
      refine w_p (pc1 := 21) rfl rfl ?_
      refine w_m0 (pc1 := 22) rfl rfl (n_ll (e := k) rfl rfl rfl (by omega)) rfl ?_
      refine w_p (pc1 := 23) rfl rfl ?_
      refine w_p (pc1 := 24) rfl rfl ?_
      refine w_t (a := 29) (b := 27) (lb_ne_t (by exact ha)) rfl rfl ?_
      refine w_iinc (pc1 := 32) (u := nI (k)) (z := nI (k + 1)) (al1 := [(3, .int (nI (k + 1))), (0, .ref 106), (1, _)]) rfl rfl rfl nK_1 rfl rfl ?_
      refine w_p (pc1 := 2) rfl rfl ?_
      exact lp_92 hm h6 n (k + 1) (by omega)
set_option maxRecDepth 100000 in
theorem m_92 {a : Int64} {m : Nat} (hm : C.1 6 12 = nI m) (h6 : m ≤ 6) : Wd L xs d y_92 (0, [(0, .ref 106), (1, .long a)], [], MH C t, sl) (Rt (some (.int (fnd (fun i => decide (C.2.1 19 i = a)) m 0))) (MH C t) sl) nX := by
  refine w_p (pc1 := 1) (st1 := .int 0 :: _) rfl rfl ?_
  refine w_p (pc1 := 2) (al1 := [(3, .int 0), (0, .ref 106), (1, _)]) rfl rfl ?_
  exact lp_92 hm h6 m 0 (by omega)
set_option maxRecDepth 100000 in
theorem lp_169 : ∀ n k c : Nat, k + n = 6 → c + n ≤ 100 → Wd L xs (d + 1) y_169 (4, [(2, .int (nI k)), (1, .int (nI c)), (0, .ref 106)], [], MH C t, sl) (Rt (some (.int (nI (c + cnt (isT C) n k)))) (MH C t) sl) nX
  | 0, k, c, hk, hc => by
    obtain rfl : k = 6 := by omega
    refine w_p (pc1 := 5) rfl rfl ?_
    refine w_p (pc1 := 7) (st1 := .int 6 :: _) rfl rfl ?_
    refine w_t (a := 32) (b := 10) (bN_ge_t (a := 6) (b := 6) (by omega) (by omega) (by omega)) rfl rfl ?_
    refine w_p (pc1 := 33) rfl rfl ?_
    refine w_r rfl rfl rfl (fun _ _ => rfl) cr_int ?_
    exact ⟨rfl, rfl, rfl⟩
  | n + 1, k, c, hk, hc => by
    cases hz : isT C k with
    | false =>
      have h0 : isT C k = false := hz
      rw [cnt, h0, cond_false, Nat.zero_add]
      refine w_p (pc1 := 5) rfl rfl ?_
      refine w_p (pc1 := 7) (st1 := .int 6 :: _) rfl rfl ?_
      refine w_f (a := 32) (b := 10) (bN_ge_f (a := k) (b := 6) (by omega) (by omega) (by omega)) rfl rfl ?_
      refine w_p (pc1 := 11) rfl rfl ?_
      refine w_p (pc1 := 12) rfl rfl ?_
      refine w_p (pc1 := 13) rfl rfl ?_
      refine w_je (pc1 := 16) (vs := [.ref 106, .int (nI (k))]) (rest := [.int (nI (c))]) (st1 := [.int 0, .int (nI (c))]) (m_33n (d := _) (sl := 0) (by omega) hz) rfl rfl rfl (fun _ _ => rfl) rfl (by exact cl_v my_33 rfl rfl rfl (Nat.le_of_ble_eq_true rfl) rfl (MH_obj rfl rfl) rfl (by decide) rfl rfl) (by rfl) (Nat.le_of_ble_eq_true rfl) (Nat.le_of_ble_eq_true rfl) rfl (by rfl) ?_
      refine w_t (a := 23) (b := 19) rfl rfl rfl ?_
      refine w_p (pc1 := 24) (st1 := .int 0 :: _) rfl rfl ?_
      refine w_iadd (pc1 := 25) (u := nI (c)) (v := nI (0)) (z := nI (c + 0)) rfl (nK_add) rfl ?_
      refine w_p (pc1 := 26) (al1 := [(1, .int (nI (c + 0))), (2, .int (nI (k))), (0, .ref 106)]) rfl rfl ?_
      refine w_iinc (pc1 := 29) (u := nI (k)) (z := nI (k + 1)) (al1 := [(2, .int (nI (k + 1))), (1, .int (nI (c + 0))), (0, .ref 106)]) rfl rfl rfl nK_1 rfl rfl ?_
      refine w_p (pc1 := 4) rfl rfl ?_
      exact lp_169 n (k + 1) c (by omega) (by omega)
    | true =>
      have h0 : isT C k = true := hz
      rw [cnt, h0, cond_true, ← Nat.add_assoc]
      refine w_p (pc1 := 5) rfl rfl ?_
      refine w_p (pc1 := 7) (st1 := .int 6 :: _) rfl rfl ?_
      refine w_f (a := 32) (b := 10) (bN_ge_f (a := k) (b := 6) (by omega) (by omega) (by omega)) rfl rfl ?_
      refine w_p (pc1 := 11) rfl rfl ?_
      refine w_p (pc1 := 12) rfl rfl ?_
      refine w_p (pc1 := 13) rfl rfl ?_
      refine w_je (pc1 := 16) (vs := [.ref 106, .int (nI (k))]) (rest := [.int (nI (c))]) (st1 := [.int 1, .int (nI (c))]) (m_33t (d := _) (sl := 0) (by omega) hz) rfl rfl rfl (fun _ _ => rfl) rfl (by exact cl_v my_33 rfl rfl rfl (Nat.le_of_ble_eq_true rfl) rfl (MH_obj rfl rfl) rfl (by decide) rfl rfl) (by rfl) (Nat.le_of_ble_eq_true rfl) (Nat.le_of_ble_eq_true rfl) rfl (by rfl) ?_
      refine w_f (a := 23) (b := 19) rfl rfl rfl ?_
      refine w_p (pc1 := 20) (st1 := .int 1 :: _) rfl rfl ?_
      refine w_p (pc1 := 24) rfl rfl ?_
      refine w_iadd (pc1 := 25) (u := nI (c)) (v := nI (1)) (z := nI (c + 1)) rfl (nK_add) rfl ?_
      refine w_p (pc1 := 26) (al1 := [(1, .int (nI (c + 1))), (2, .int (nI (k))), (0, .ref 106)]) rfl rfl ?_
      refine w_iinc (pc1 := 29) (u := nI (k)) (z := nI (k + 1)) (al1 := [(2, .int (nI (k + 1))), (1, .int (nI (c + 1))), (0, .ref 106)]) rfl rfl rfl nK_1 rfl rfl ?_
      refine w_p (pc1 := 4) rfl rfl ?_
      exact lp_169 n (k + 1) (c + 1) (by omega) (by omega)
set_option maxRecDepth 100000 in
theorem m_169 : Wd L xs (d + 1) y_169 (0, [(0, .ref 106)], [], MH C t, sl) (Rt (some (.int (nI (cnt (isT C) 6 0)))) (MH C t) sl) nX := by
  refine w_p (pc1 := 1) (st1 := .int 0 :: _) rfl rfl ?_
  refine w_p (pc1 := 2) (al1 := [(1, .int 0), (0, .ref 106)]) rfl rfl ?_
  refine w_p (pc1 := 3) (st1 := .int 0 :: _) rfl rfl ?_
  refine w_p (pc1 := 4) (al1 := [(2, .int 0), (1, .int 0), (0, .ref 106)]) rfl rfl ?_
  have := lp_169 (L := L) (xs := xs) (C := C) (t := t) (d := d) (sl := sl) 6 0 0 rfl (by omega)
  rw [Nat.zero_add] at this
  exact this
set_option maxRecDepth 100000 in
theorem lp_170 : ∀ n k c : Nat, k + n = 24 → c + n ≤ 100 → Wd L xs d y_170 (4, [(2, .int (nI k)), (1, .int (nI c)), (0, .ref 106)], [], MH C t, sl) (Rt (some (.int (nI (c + cnt (isR C) n k)))) (MH C t) sl) nX
  | 0, k, c, hk, hc => by
    obtain rfl : k = 24 := by omega
    refine w_p (pc1 := 5) rfl rfl ?_
    refine w_p (pc1 := 7) (st1 := .int 24 :: _) rfl rfl ?_
    refine w_t (a := 33) (b := 10) (bN_ge_t (a := 24) (b := 24) (by omega) (by omega) (by omega)) rfl rfl ?_
    refine w_p (pc1 := 34) rfl rfl ?_
    refine w_r rfl rfl rfl (fun _ _ => rfl) cr_int ?_
    exact ⟨rfl, rfl, rfl⟩
  | n + 1, k, c, hk, hc => by
    cases hz : isR C k with
    | false =>
      have h0 : isR C k = false := hz
      rw [cnt, h0, cond_false, Nat.zero_add]
      refine w_p (pc1 := 5) rfl rfl ?_
      refine w_p (pc1 := 7) (st1 := .int 24 :: _) rfl rfl ?_
      refine w_f (a := 33) (b := 10) (bN_ge_f (a := k) (b := 24) (by omega) (by omega) (by omega)) rfl rfl ?_
      refine w_p (pc1 := 11) rfl rfl ?_
      refine w_p (pc1 := 12) rfl rfl ?_
      refine w_m0 (pc1 := 15) rfl rfl (h_gC rfl rfl rfl rfl) rfl ?_
      refine w_p (pc1 := 16) rfl rfl ?_
      refine w_m0 (pc1 := 17) rfl rfl (n_al (e := k) rfl rfl (by decide) rfl (by omega)) rfl ?_
      refine w_nl_n (a := 24) (b := 20) (by exact isR_f hz) rfl rfl rfl ?_
      refine w_p (pc1 := 25) (st1 := .int 0 :: _) rfl rfl ?_
      refine w_iadd (pc1 := 26) (u := nI (c)) (v := nI (0)) (z := nI (c + 0)) rfl (nK_add) rfl ?_
      refine w_p (pc1 := 27) (al1 := [(1, .int (nI (c + 0))), (2, .int (nI (k))), (0, .ref 106)]) rfl rfl ?_
      refine w_iinc (pc1 := 30) (u := nI (k)) (z := nI (k + 1)) (al1 := [(2, .int (nI (k + 1))), (1, .int (nI (c + 0))), (0, .ref 106)]) rfl rfl rfl nK_1 rfl rfl ?_
      refine w_p (pc1 := 4) rfl rfl ?_
      exact lp_170 n (k + 1) c (by omega) (by omega)
    | true =>
      have h0 : isR C k = true := hz
      obtain ⟨r, hr⟩ := isR_t hz
      rw [cnt, h0, cond_true, ← Nat.add_assoc]
      refine w_p (pc1 := 5) rfl rfl ?_
      refine w_p (pc1 := 7) (st1 := .int 24 :: _) rfl rfl ?_
      refine w_f (a := 33) (b := 10) (bN_ge_f (a := k) (b := 24) (by omega) (by omega) (by omega)) rfl rfl ?_
      refine w_p (pc1 := 11) rfl rfl ?_
      refine w_p (pc1 := 12) rfl rfl ?_
      refine w_m0 (pc1 := 15) rfl rfl (h_gC rfl rfl rfl rfl) rfl ?_
      refine w_p (pc1 := 16) rfl rfl ?_
      refine w_m0 (pc1 := 17) rfl rfl (n_al (e := k) rfl rfl (by decide) rfl (by omega)) rfl ?_
      refine w_nl_s (a := 24) (b := 20) (by exact hr) rfl rfl rfl ?_
      refine w_p (pc1 := 21) (st1 := .int 1 :: _) rfl rfl ?_
      refine w_p (pc1 := 25) rfl rfl ?_
      refine w_iadd (pc1 := 26) (u := nI (c)) (v := nI (1)) (z := nI (c + 1)) rfl (nK_add) rfl ?_
      refine w_p (pc1 := 27) (al1 := [(1, .int (nI (c + 1))), (2, .int (nI (k))), (0, .ref 106)]) rfl rfl ?_
      refine w_iinc (pc1 := 30) (u := nI (k)) (z := nI (k + 1)) (al1 := [(2, .int (nI (k + 1))), (1, .int (nI (c + 1))), (0, .ref 106)]) rfl rfl rfl nK_1 rfl rfl ?_
      refine w_p (pc1 := 4) rfl rfl ?_
      exact lp_170 n (k + 1) (c + 1) (by omega) (by omega)
set_option maxRecDepth 100000 in
theorem m_170 : Wd L xs d y_170 (0, [(0, .ref 106)], [], MH C t, sl) (Rt (some (.int (nI (cnt (isR C) 24 0)))) (MH C t) sl) nX := by
  refine w_p (pc1 := 1) (st1 := .int 0 :: _) rfl rfl ?_
  refine w_p (pc1 := 2) (al1 := [(1, .int 0), (0, .ref 106)]) rfl rfl ?_
  refine w_p (pc1 := 3) (st1 := .int 0 :: _) rfl rfl ?_
  refine w_p (pc1 := 4) (al1 := [(2, .int 0), (1, .int 0), (0, .ref 106)]) rfl rfl ?_
  have := lp_170 (L := L) (xs := xs) (C := C) (t := t) (d := d) (sl := sl) 24 0 0 rfl (by omega)
  rw [Nat.zero_add] at this
  exact this
set_option maxRecDepth 100000 in
theorem lp_171 : ∀ n k c : Nat, k + n = 8 → c + n ≤ 100 → Wd L xs d y_171 (4, [(2, .int (nI k)), (1, .int (nI c)), (0, .ref 106)], [], MH C t, sl) (Rt (some (.int (nI (c + cnt (isG C) n k)))) (MH C t) sl) nX
  | 0, k, c, hk, hc => by
    obtain rfl : k = 8 := by omega
    refine w_p (pc1 := 5) rfl rfl ?_
    refine w_p (pc1 := 7) (st1 := .int 8 :: _) rfl rfl ?_
    refine w_t (a := 33) (b := 10) (bN_ge_t (a := 8) (b := 8) (by omega) (by omega) (by omega)) rfl rfl ?_
    refine w_p (pc1 := 34) rfl rfl ?_
    refine w_r rfl rfl rfl (fun _ _ => rfl) cr_int ?_
    exact ⟨rfl, rfl, rfl⟩
  | n + 1, k, c, hk, hc => by
    cases hz : isG C k with
    | false =>
      have h0 : isG C k = false := hz
      rw [cnt, h0, cond_false, Nat.zero_add]
      refine w_p (pc1 := 5) rfl rfl ?_
      refine w_p (pc1 := 7) (st1 := .int 8 :: _) rfl rfl ?_
      refine w_f (a := 33) (b := 10) (bN_ge_f (a := k) (b := 8) (by omega) (by omega) (by omega)) rfl rfl ?_
      refine w_p (pc1 := 11) rfl rfl ?_
      refine w_p (pc1 := 12) rfl rfl ?_
      refine w_m0 (pc1 := 15) rfl rfl (h_gC rfl rfl rfl rfl) rfl ?_
      refine w_p (pc1 := 16) rfl rfl ?_
      refine w_m0 (pc1 := 17) rfl rfl (n_al (e := k) rfl rfl (by decide) rfl (by omega)) rfl ?_
      refine w_nl_n (a := 24) (b := 20) (by exact isG_f hz) rfl rfl rfl ?_
      refine w_p (pc1 := 25) (st1 := .int 0 :: _) rfl rfl ?_
      refine w_iadd (pc1 := 26) (u := nI (c)) (v := nI (0)) (z := nI (c + 0)) rfl (nK_add) rfl ?_
      refine w_p (pc1 := 27) (al1 := [(1, .int (nI (c + 0))), (2, .int (nI (k))), (0, .ref 106)]) rfl rfl ?_
      refine w_iinc (pc1 := 30) (u := nI (k)) (z := nI (k + 1)) (al1 := [(2, .int (nI (k + 1))), (1, .int (nI (c + 0))), (0, .ref 106)]) rfl rfl rfl nK_1 rfl rfl ?_
      refine w_p (pc1 := 4) rfl rfl ?_
      exact lp_171 n (k + 1) c (by omega) (by omega)
    | true =>
      have h0 : isG C k = true := hz
      obtain ⟨r, hr⟩ := isG_t hz
      rw [cnt, h0, cond_true, ← Nat.add_assoc]
      refine w_p (pc1 := 5) rfl rfl ?_
      refine w_p (pc1 := 7) (st1 := .int 8 :: _) rfl rfl ?_
      refine w_f (a := 33) (b := 10) (bN_ge_f (a := k) (b := 8) (by omega) (by omega) (by omega)) rfl rfl ?_
      refine w_p (pc1 := 11) rfl rfl ?_
      refine w_p (pc1 := 12) rfl rfl ?_
      refine w_m0 (pc1 := 15) rfl rfl (h_gC rfl rfl rfl rfl) rfl ?_
      refine w_p (pc1 := 16) rfl rfl ?_
      refine w_m0 (pc1 := 17) rfl rfl (n_al (e := k) rfl rfl (by decide) rfl (by omega)) rfl ?_
      refine w_nl_s (a := 24) (b := 20) (by exact hr) rfl rfl rfl ?_
      refine w_p (pc1 := 21) (st1 := .int 1 :: _) rfl rfl ?_
      refine w_p (pc1 := 25) rfl rfl ?_
      refine w_iadd (pc1 := 26) (u := nI (c)) (v := nI (1)) (z := nI (c + 1)) rfl (nK_add) rfl ?_
      refine w_p (pc1 := 27) (al1 := [(1, .int (nI (c + 1))), (2, .int (nI (k))), (0, .ref 106)]) rfl rfl ?_
      refine w_iinc (pc1 := 30) (u := nI (k)) (z := nI (k + 1)) (al1 := [(2, .int (nI (k + 1))), (1, .int (nI (c + 1))), (0, .ref 106)]) rfl rfl rfl nK_1 rfl rfl ?_
      refine w_p (pc1 := 4) rfl rfl ?_
      exact lp_171 n (k + 1) (c + 1) (by omega) (by omega)
set_option maxRecDepth 100000 in
theorem m_171 : Wd L xs d y_171 (0, [(0, .ref 106)], [], MH C t, sl) (Rt (some (.int (nI (cnt (isG C) 8 0)))) (MH C t) sl) nX := by
  refine w_p (pc1 := 1) (st1 := .int 0 :: _) rfl rfl ?_
  refine w_p (pc1 := 2) (al1 := [(1, .int 0), (0, .ref 106)]) rfl rfl ?_
  refine w_p (pc1 := 3) (st1 := .int 0 :: _) rfl rfl ?_
  refine w_p (pc1 := 4) (al1 := [(2, .int 0), (1, .int 0), (0, .ref 106)]) rfl rfl ?_
  have := lp_171 (L := L) (xs := xs) (C := C) (t := t) (d := d) (sl := sl) 8 0 0 rfl (by omega)
  rw [Nat.zero_add] at this
  exact this
set_option maxRecDepth 100000 in
theorem m_43t {b : Nat} (hk : b < 6) (hz : isT C b = true) : Wd L xs (d + 1) y_43 (0, [(0, .ref 106), (1, .int (nI b))], [], MH C t, sl) (Rt (some (.int (C.1 8 b))) (MH C t) sl) nX := by
  refine w_p (pc1 := 1) rfl rfl ?_
  refine w_p (pc1 := 2) rfl rfl ?_
  refine w_je (pc1 := 5) (vs := [.ref 106, .int (nI (b))]) (rest := []) (st1 := [.int 1]) (m_33t (d := _) (sl := 0) hk hz) rfl rfl rfl (fun _ _ => rfl) rfl (by exact cl_v my_33 rfl rfl rfl (Nat.le_of_ble_eq_true rfl) rfl (MH_obj rfl rfl) rfl (by decide) rfl rfl) (by rfl) (Nat.le_of_ble_eq_true rfl) (Nat.le_of_ble_eq_true rfl) rfl (by rfl) ?_
  refine w_f (a := 17) (b := 8) rfl rfl rfl ?_
  refine w_p (pc1 := 9) rfl rfl ?_
  refine w_m0 (pc1 := 12) rfl rfl (h_gC rfl rfl rfl rfl) rfl ?_
  refine w_p (pc1 := 13) rfl rfl ?_
  refine w_m0 (pc1 := 14) rfl rfl (n_il (e := b) rfl rfl rfl (by omega)) rfl ?_
  refine w_p (pc1 := 18) rfl rfl ?_
  refine w_r rfl rfl rfl (fun _ _ => rfl) cr_int ?_
  exact ⟨rfl, rfl, rfl⟩
end STQ
