/-! THE OTHER SIDE'S TAPE, 2: a fault is noted; the step to the next token -/
section MT2
variable {L : Nat} {xs : Nat → Int32} {C : co_T} {t : ab_H} {d sl n p : Nat} {B : Nat → Nat}
set_option maxRecDepth 100000 in
theorem sJ_sJ {C : co_T} {k j : Nat} {u v : Int64} : sJ (sJ C k j u) k j v = sJ C k j v := by
  unfold sJ sB vp_updL
  refine Prod.ext rfl (Prod.ext ?_ rfl)
  funext a b
  simp only
  by_cases ha : a = k
  · subst ha
    by_cases hb : b = j <;> simp [hb]
  · simp [ha]
set_option maxRecDepth 100000 in
theorem sI_sI {C : co_T} {k j : Nat} {u v : Int32} : sI (sI C k j u) k j v = sI C k j v := by
  unfold sI sA upd
  refine Prod.ext ?_ rfl
  funext a b
  simp only
  by_cases ha : a = k
  · subst ha
    by_cases hb : b = j <;> simp [hb]
  · simp [ha]
def fl_ (C : co_T) (c q : Int32) : co_T := if C.1 76 8 = 0 then sI (sI C 76 8 c) 76 9 q else C
/-! an elder fault stands -/
def orL (C : co_T) (c q : Int32) : Prop := C.1 76 8 ≠ 0 → (C.1 76 9).toInt < q.toInt ∨ (C.1 76 9 = q ∧ (C.1 76 8).toInt ≤ c.toInt)
set_option maxRecDepth 100000 in
theorem flt_2 {c q : Int32} : (fl_ C c q).2 = C.2 := by
  unfold fl_
  split <;> rfl
set_option maxRecDepth 100000 in
theorem flt_1 {c q : Int32} {k j : Nat} (h : k ≠ 76 ∨ (j ≠ 8 ∧ j ≠ 9)) : (fl_ C c q).1 k j = C.1 k j := by
  unfold fl_
  split
  · rw [sI_1, if_neg (by omega), sI_1, if_neg (by omega)]
  · rfl
set_option maxRecDepth 100000 in
theorem m_201 {c q : Int32} (hL : orL C c q) : Wd L xs d y_201 (0, [(0, .ref 176), (1, .int c), (2, .int q)], [], MH C t, sl) (Rt none (MH (fl_ C c q) t) sl) nX := by
  unfold fl_
  by_cases hf : C.1 76 8 = 0
  · rw [if_pos hf]
    refine w_p (pc1 := 1) rfl rfl ?_
    refine w_m0 (pc1 := 4) rfl rfl (h_gI (j := 8) rfl rfl rfl rfl rfl) rfl ?_
    refine w_t (a := 31) (b := 7) (cb_eq_t (by exact hf)) rfl rfl ?_
    refine w_p (pc1 := 32) (st1 := .int 1 :: _) rfl rfl ?_
    refine w_p (pc1 := 36) rfl rfl ?_
    refine w_p (pc1 := 37) (al1 := [(3, .int 1), (0, .ref 176), (1, .int (c)), (2, .int (q))]) rfl rfl ?_
    refine w_p (pc1 := 38) rfl rfl ?_
    refine w_f (a := 51) (b := 41) rfl rfl rfl ?_
    refine w_p (pc1 := 42) rfl rfl ?_
    refine w_p (pc1 := 43) rfl rfl ?_
    refine w_m0 (pc1 := 46) rfl rfl (h_pI (j := 8) rfl rfl rfl rfl rfl rfl rfl ⟨rfl, rfl⟩ rfl) rfl ?_
    refine w_p (pc1 := 47) rfl rfl ?_
    refine w_p (pc1 := 48) rfl rfl ?_
    refine w_m0 (pc1 := 51) rfl rfl (h_pI (j := 9) rfl rfl rfl rfl rfl rfl rfl ⟨rfl, rfl⟩ rfl) rfl ?_
    refine w_r rfl rfl rfl (fun _ _ => rfl) rfl ?_
    exact ⟨rfl, rfl, rfl⟩
  · rw [if_neg hf]
    rcases hL hf with h1 | ⟨h1, h2⟩
    · skip
      refine w_p (pc1 := 1) rfl rfl ?_
      refine w_m0 (pc1 := 4) rfl rfl (h_gI (j := 8) rfl rfl rfl rfl rfl) rfl ?_
      refine w_f (a := 31) (b := 7) (cb_eq_f (by exact hf)) rfl rfl ?_
      refine w_p (pc1 := 8) rfl rfl ?_
      refine w_p (pc1 := 9) rfl rfl ?_
      refine w_m0 (pc1 := 12) rfl rfl (h_gI (j := 9) rfl rfl rfl rfl rfl) rfl ?_
      refine w_f (a := 31) (b := 15) (cb_lt_f (by omega)) rfl rfl ?_
      refine w_p (pc1 := 16) rfl rfl ?_
      refine w_p (pc1 := 17) rfl rfl ?_
      refine w_m0 (pc1 := 20) rfl rfl (h_gI (j := 9) rfl rfl rfl rfl rfl) rfl ?_
      refine w_t (a := 35) (b := 23) (cb_ne_t (by intro z; rw [z] at h1; omega)) rfl rfl ?_
      refine w_p (pc1 := 36) (st1 := .int 0 :: _) rfl rfl ?_
      refine w_p (pc1 := 37) (al1 := [(3, .int 0), (0, .ref 176), (1, .int (c)), (2, .int (q))]) rfl rfl ?_
      refine w_p (pc1 := 38) rfl rfl ?_
      refine w_t (a := 51) (b := 41) rfl rfl rfl ?_
      refine w_r rfl rfl rfl (fun _ _ => rfl) rfl ?_
      exact ⟨rfl, rfl, rfl⟩
    · skip
      refine w_p (pc1 := 1) rfl rfl ?_
      refine w_m0 (pc1 := 4) rfl rfl (h_gI (j := 8) rfl rfl rfl rfl rfl) rfl ?_
      refine w_f (a := 31) (b := 7) (cb_eq_f (by exact hf)) rfl rfl ?_
      refine w_p (pc1 := 8) rfl rfl ?_
      refine w_p (pc1 := 9) rfl rfl ?_
      refine w_m0 (pc1 := 12) rfl rfl (h_gI (j := 9) rfl rfl rfl rfl rfl) rfl ?_
      refine w_f (a := 31) (b := 15) (cb_lt_f (by rw [h1]; omega)) rfl rfl ?_
      refine w_p (pc1 := 16) rfl rfl ?_
      refine w_p (pc1 := 17) rfl rfl ?_
      refine w_m0 (pc1 := 20) rfl rfl (h_gI (j := 9) rfl rfl rfl rfl rfl) rfl ?_
      refine w_f (a := 35) (b := 23) (cb_ne_f (by exact h1.symm)) rfl rfl ?_
      refine w_p (pc1 := 24) rfl rfl ?_
      refine w_p (pc1 := 25) rfl rfl ?_
      refine w_m0 (pc1 := 28) rfl rfl (h_gI (j := 8) rfl rfl rfl rfl rfl) rfl ?_
      refine w_t (a := 35) (b := 31) (cb_ge_t (by omega)) rfl rfl ?_
      refine w_p (pc1 := 36) (st1 := .int 0 :: _) rfl rfl ?_
      refine w_p (pc1 := 37) (al1 := [(3, .int 0), (0, .ref 176), (1, .int (c)), (2, .int (q))]) rfl rfl ?_
      refine w_p (pc1 := 38) rfl rfl ?_
      refine w_t (a := 51) (b := 41) rfl rfl rfl ?_
      refine w_r rfl rfl rfl (fun _ _ => rfl) rfl ?_
      exact ⟨rfl, rfl, rfl⟩
set_option maxRecDepth 100000 in
theorem m_200 {c : Int32} (hL : orL C c (C.1 76 5)) : Wd L xs (d + 1) y_200 (0, [(0, .ref 176), (1, .int c)], [], MH C t, sl) (Rt none (MH (fl_ C c (C.1 76 5)) t) sl) nX := by
  refine w_p (pc1 := 1) rfl rfl ?_
  refine w_p (pc1 := 2) rfl rfl ?_
  refine w_p (pc1 := 3) rfl rfl ?_
  refine w_m0 (pc1 := 6) rfl rfl (h_gI (j := 5) rfl rfl rfl rfl rfl) rfl ?_
  refine w_je (pc1 := 9) (vs := [.ref 176, .int (c), _]) (rest := []) (st1 := []) (m_201 (d := _) (sl := 0) hL) rfl rfl rfl (fun _ _ => rfl) rfl (by exact cl_v my_201 rfl rfl rfl (Nat.le_of_ble_eq_true rfl) rfl (MH_obj rfl rfl) rfl (by decide) rfl rfl) (by rfl) (Nat.le_of_ble_eq_true rfl) (Nat.le_of_ble_eq_true rfl) rfl (by rfl) ?_
  refine w_r rfl rfl rfl (fun _ _ => rfl) rfl ?_
  exact ⟨rfl, rfl, rfl⟩
/-! letters that are read -/
def rlV (B : Nat → Nat) (n p : Nat) : Nat → Nat → Int64 → Int64
  | 0, _, v => v
  | f + 1, k, v => bif atL B n k || atF B n k then rlV B n p f (k + 1) (if k - p < 8 then (v <<< ((8 : Int32).toInt64 &&& 63)) ||| (nI (B k)).toInt64 else v) else v
def rlF (C : co_T) (p e : Nat) (v : Int64) : co_T := sI (sI (if 8 < e - p then fl_ (sJ C 76 7 v) 1 (C.1 76 5) else sJ C 76 7 v) 76 4 (bif isWd v then 3 else 1)) 76 6 (nI e)
/-! figures that are read -/
def rfV (B : Nat → Nat) (n p : Nat) : Nat → Nat → Int64 → Int64
  | 0, _, v => v
  | f + 1, k, v => bif atF B n k then rfV B n p f (k + 1) (if k - p < 9 then 10 * v + (nI (B k)).toInt64 - 48 else v) else v
def rfF (C : co_T) (p e : Nat) (v : Int64) : co_T := sI (sI (if 9 < e - p then fl_ (sJ C 76 7 v) 1 (C.1 76 5) else sJ C 76 7 v) 76 4 2) 76 6 (nI e)
set_option maxRecDepth 100000 in
theorem lp_198 (T : tpM C B n) (hp : C.1 76 3 = nI p) (hL : orL C 1 (C.1 76 5)) : ∀ (f k : Nat) (v : Int64), k + f = n → p ≤ k → Wd L xs (d + 2) y_198 (10, [(1, .int (nI k)), (0, .ref 176)], [], MH (sJ C 76 7 v) t, sl) (Rt none (MH (rlF C p (adv (fun i => atL B n i || atF B n i) f k) (rlV B n p f k v)) t) sl) nX
  | 0, k, v, hf, hk => by
    have h6 := T.2.1
    have T2 : tpM (sJ C 76 7 v) B n := T
    have hl : atL B n k = false := by rw [atL, decide_eq_false (by omega)]; rfl
    have hg : atF B n k = false := by rw [atF, decide_eq_false (by omega)]; rfl
    rw [adv, rlV]
    by_cases h8 : 8 < k - p
    · rw [rlF, if_pos h8]
      cases hw : isWd v with
      | true =>
        simp only [cond_true]
        refine w_p (pc1 := 11) rfl rfl ?_
        refine w_p (pc1 := 12) rfl rfl ?_
        refine w_je (pc1 := 15) (vs := [.ref 176, .int (nI (k))]) (rest := []) (st1 := [.int (nI (bt B n k))]) (m_196 (d := _) (sl := 0) (p := k) T2 (by omega)) rfl rfl rfl (fun _ _ => rfl) rfl (by exact cl_v my_196 rfl rfl rfl (Nat.le_of_ble_eq_true rfl) rfl (MH_obj rfl rfl) rfl (by decide) rfl rfl) (by rfl) (Nat.le_of_ble_eq_true rfl) (Nat.le_of_ble_eq_true rfl) rfl (by rfl) ?_
        refine w_je (pc1 := 18) (vs := [.int (nI (bt B n k))]) (rest := []) (st1 := [.int 0]) (m_197f (d := _) (sl := 0) (bt_lt T) (by rw [bt_L]; exact hl)) rfl rfl rfl (fun _ _ => rfl) rfl (by exact cl_s my_197 rfl rfl rfl (Nat.le_of_ble_eq_true rfl) rfl rfl) (by rfl) (Nat.le_of_ble_eq_true rfl) (Nat.le_of_ble_eq_true rfl) rfl (by rfl) ?_
        refine w_f (a := 32) (b := 21) rfl rfl rfl ?_
        refine w_p (pc1 := 22) rfl rfl ?_
        refine w_p (pc1 := 23) rfl rfl ?_
        refine w_je (pc1 := 26) (vs := [.ref 176, .int (nI (k))]) (rest := []) (st1 := [.int (nI (bt B n k))]) (m_196 (d := _) (sl := 0) (p := k) T2 (by omega)) rfl rfl rfl (fun _ _ => rfl) rfl (by exact cl_v my_196 rfl rfl rfl (Nat.le_of_ble_eq_true rfl) rfl (MH_obj rfl rfl) rfl (by decide) rfl rfl) (by rfl) (Nat.le_of_ble_eq_true rfl) (Nat.le_of_ble_eq_true rfl) rfl (by rfl) ?_
        refine w_je (pc1 := 29) (vs := [.int (nI (bt B n k))]) (rest := []) (st1 := [.int 0]) (m_199f (d := _) (sl := 0) (bt_lt T) (by rw [bt_F]; exact hg)) rfl rfl rfl (fun _ _ => rfl) rfl (by exact cl_s my_199 rfl rfl rfl (Nat.le_of_ble_eq_true rfl) rfl rfl) (by rfl) (Nat.le_of_ble_eq_true rfl) (Nat.le_of_ble_eq_true rfl) rfl (by rfl) ?_
        refine w_t (a := 75) (b := 32) rfl rfl rfl ?_
        refine w_p (pc1 := 76) rfl rfl ?_
        refine w_p (pc1 := 77) rfl rfl ?_
        refine w_m0 (pc1 := 80) (st1 := .int (nI (p)) :: _) rfl rfl (h_gIe rfl rfl rfl rfl rfl (hp)) rfl ?_
        refine w_isub (pc1 := 81) (u := nI (k)) (v := nI (p)) (z := nI (k - p)) rfl (nK_sub (by omega)) rfl ?_
        refine w_p (pc1 := 83) (st1 := .int 8 :: _) rfl rfl ?_
        refine w_f (a := 91) (b := 86) (bN_le_f (a := k - p) (b := 8) (by omega) (by omega) (by omega)) rfl rfl ?_
        refine w_p (pc1 := 87) rfl rfl ?_
        refine w_p (pc1 := 88) (st1 := .int 1 :: _) rfl rfl ?_
        refine w_je (pc1 := 91) (vs := [.ref 176, .int 1]) (rest := []) (st1 := []) (m_200 (d := _) (sl := 0) (C := sJ C 76 7 v) hL) rfl rfl rfl (fun _ _ => rfl) rfl (by exact cl_v my_200 rfl rfl rfl (Nat.le_of_ble_eq_true rfl) rfl (MH_obj rfl rfl) rfl (by decide) rfl rfl) (by rfl) (Nat.le_of_ble_eq_true rfl) (Nat.le_of_ble_eq_true rfl) rfl (by rfl) ?_
        refine w_p (pc1 := 92) rfl rfl ?_
        refine w_p (pc1 := 93) rfl rfl ?_
        refine w_m0 (pc1 := 96) (st1 := .long (v) :: _) rfl rfl (h_gJe rfl rfl rfl rfl rfl (by rw [flt_2]; rfl)) rfl ?_
        refine w_je (pc1 := 99) (vs := [.long (v)]) (rest := [.ref 176]) (st1 := [.int 1, .ref 176]) (m_202t (d := _) (sl := 0) hw) rfl rfl rfl (fun _ _ => rfl) rfl (by exact cl_s my_202 rfl rfl rfl (Nat.le_of_ble_eq_true rfl) rfl rfl) (by rfl) (Nat.le_of_ble_eq_true rfl) (Nat.le_of_ble_eq_true rfl) rfl (by rfl) ?_
        refine w_f (a := 106) (b := 102) rfl rfl rfl ?_
        refine w_p (pc1 := 103) (st1 := .int 3 :: _) rfl rfl ?_
        refine w_p (pc1 := 107) rfl rfl ?_
        refine w_m0 (pc1 := 110) rfl rfl (h_pI (j := 4) rfl rfl rfl rfl rfl rfl rfl ⟨rfl, rfl⟩ rfl) rfl ?_
        refine w_p (pc1 := 111) rfl rfl ?_
        refine w_p (pc1 := 112) rfl rfl ?_
        refine w_m0 (pc1 := 115) rfl rfl (h_pI (j := 6) rfl rfl rfl rfl rfl rfl rfl ⟨rfl, rfl⟩ rfl) rfl ?_
        refine w_r rfl rfl rfl (fun _ _ => rfl) rfl ?_
        exact ⟨rfl, rfl, rfl⟩
      | false =>
        simp only [cond_false]
        refine w_p (pc1 := 11) rfl rfl ?_
        refine w_p (pc1 := 12) rfl rfl ?_
        refine w_je (pc1 := 15) (vs := [.ref 176, .int (nI (k))]) (rest := []) (st1 := [.int (nI (bt B n k))]) (m_196 (d := _) (sl := 0) (p := k) T2 (by omega)) rfl rfl rfl (fun _ _ => rfl) rfl (by exact cl_v my_196 rfl rfl rfl (Nat.le_of_ble_eq_true rfl) rfl (MH_obj rfl rfl) rfl (by decide) rfl rfl) (by rfl) (Nat.le_of_ble_eq_true rfl) (Nat.le_of_ble_eq_true rfl) rfl (by rfl) ?_
        refine w_je (pc1 := 18) (vs := [.int (nI (bt B n k))]) (rest := []) (st1 := [.int 0]) (m_197f (d := _) (sl := 0) (bt_lt T) (by rw [bt_L]; exact hl)) rfl rfl rfl (fun _ _ => rfl) rfl (by exact cl_s my_197 rfl rfl rfl (Nat.le_of_ble_eq_true rfl) rfl rfl) (by rfl) (Nat.le_of_ble_eq_true rfl) (Nat.le_of_ble_eq_true rfl) rfl (by rfl) ?_
        refine w_f (a := 32) (b := 21) rfl rfl rfl ?_
        refine w_p (pc1 := 22) rfl rfl ?_
        refine w_p (pc1 := 23) rfl rfl ?_
        refine w_je (pc1 := 26) (vs := [.ref 176, .int (nI (k))]) (rest := []) (st1 := [.int (nI (bt B n k))]) (m_196 (d := _) (sl := 0) (p := k) T2 (by omega)) rfl rfl rfl (fun _ _ => rfl) rfl (by exact cl_v my_196 rfl rfl rfl (Nat.le_of_ble_eq_true rfl) rfl (MH_obj rfl rfl) rfl (by decide) rfl rfl) (by rfl) (Nat.le_of_ble_eq_true rfl) (Nat.le_of_ble_eq_true rfl) rfl (by rfl) ?_
        refine w_je (pc1 := 29) (vs := [.int (nI (bt B n k))]) (rest := []) (st1 := [.int 0]) (m_199f (d := _) (sl := 0) (bt_lt T) (by rw [bt_F]; exact hg)) rfl rfl rfl (fun _ _ => rfl) rfl (by exact cl_s my_199 rfl rfl rfl (Nat.le_of_ble_eq_true rfl) rfl rfl) (by rfl) (Nat.le_of_ble_eq_true rfl) (Nat.le_of_ble_eq_true rfl) rfl (by rfl) ?_
        refine w_t (a := 75) (b := 32) rfl rfl rfl ?_
        refine w_p (pc1 := 76) rfl rfl ?_
        refine w_p (pc1 := 77) rfl rfl ?_
        refine w_m0 (pc1 := 80) (st1 := .int (nI (p)) :: _) rfl rfl (h_gIe rfl rfl rfl rfl rfl (hp)) rfl ?_
        refine w_isub (pc1 := 81) (u := nI (k)) (v := nI (p)) (z := nI (k - p)) rfl (nK_sub (by omega)) rfl ?_
        refine w_p (pc1 := 83) (st1 := .int 8 :: _) rfl rfl ?_
        refine w_f (a := 91) (b := 86) (bN_le_f (a := k - p) (b := 8) (by omega) (by omega) (by omega)) rfl rfl ?_
        refine w_p (pc1 := 87) rfl rfl ?_
        refine w_p (pc1 := 88) (st1 := .int 1 :: _) rfl rfl ?_
        refine w_je (pc1 := 91) (vs := [.ref 176, .int 1]) (rest := []) (st1 := []) (m_200 (d := _) (sl := 0) (C := sJ C 76 7 v) hL) rfl rfl rfl (fun _ _ => rfl) rfl (by exact cl_v my_200 rfl rfl rfl (Nat.le_of_ble_eq_true rfl) rfl (MH_obj rfl rfl) rfl (by decide) rfl rfl) (by rfl) (Nat.le_of_ble_eq_true rfl) (Nat.le_of_ble_eq_true rfl) rfl (by rfl) ?_
        refine w_p (pc1 := 92) rfl rfl ?_
        refine w_p (pc1 := 93) rfl rfl ?_
        refine w_m0 (pc1 := 96) (st1 := .long (v) :: _) rfl rfl (h_gJe rfl rfl rfl rfl rfl (by rw [flt_2]; rfl)) rfl ?_
        refine w_je (pc1 := 99) (vs := [.long (v)]) (rest := [.ref 176]) (st1 := [.int 0, .ref 176]) (m_202f (d := _) (sl := 0) hw) rfl rfl rfl (fun _ _ => rfl) rfl (by exact cl_s my_202 rfl rfl rfl (Nat.le_of_ble_eq_true rfl) rfl rfl) (by rfl) (Nat.le_of_ble_eq_true rfl) (Nat.le_of_ble_eq_true rfl) rfl (by rfl) ?_
        refine w_t (a := 106) (b := 102) rfl rfl rfl ?_
        refine w_p (pc1 := 107) (st1 := .int 1 :: _) rfl rfl ?_
        refine w_m0 (pc1 := 110) rfl rfl (h_pI (j := 4) rfl rfl rfl rfl rfl rfl rfl ⟨rfl, rfl⟩ rfl) rfl ?_
        refine w_p (pc1 := 111) rfl rfl ?_
        refine w_p (pc1 := 112) rfl rfl ?_
        refine w_m0 (pc1 := 115) rfl rfl (h_pI (j := 6) rfl rfl rfl rfl rfl rfl rfl ⟨rfl, rfl⟩ rfl) rfl ?_
        refine w_r rfl rfl rfl (fun _ _ => rfl) rfl ?_
        exact ⟨rfl, rfl, rfl⟩
    · rw [rlF, if_neg h8]
      cases hw : isWd v with
      | true =>
        simp only [cond_true]
        refine w_p (pc1 := 11) rfl rfl ?_
        refine w_p (pc1 := 12) rfl rfl ?_
        refine w_je (pc1 := 15) (vs := [.ref 176, .int (nI (k))]) (rest := []) (st1 := [.int (nI (bt B n k))]) (m_196 (d := _) (sl := 0) (p := k) T2 (by omega)) rfl rfl rfl (fun _ _ => rfl) rfl (by exact cl_v my_196 rfl rfl rfl (Nat.le_of_ble_eq_true rfl) rfl (MH_obj rfl rfl) rfl (by decide) rfl rfl) (by rfl) (Nat.le_of_ble_eq_true rfl) (Nat.le_of_ble_eq_true rfl) rfl (by rfl) ?_
        refine w_je (pc1 := 18) (vs := [.int (nI (bt B n k))]) (rest := []) (st1 := [.int 0]) (m_197f (d := _) (sl := 0) (bt_lt T) (by rw [bt_L]; exact hl)) rfl rfl rfl (fun _ _ => rfl) rfl (by exact cl_s my_197 rfl rfl rfl (Nat.le_of_ble_eq_true rfl) rfl rfl) (by rfl) (Nat.le_of_ble_eq_true rfl) (Nat.le_of_ble_eq_true rfl) rfl (by rfl) ?_
        refine w_f (a := 32) (b := 21) rfl rfl rfl ?_
        refine w_p (pc1 := 22) rfl rfl ?_
        refine w_p (pc1 := 23) rfl rfl ?_
        refine w_je (pc1 := 26) (vs := [.ref 176, .int (nI (k))]) (rest := []) (st1 := [.int (nI (bt B n k))]) (m_196 (d := _) (sl := 0) (p := k) T2 (by omega)) rfl rfl rfl (fun _ _ => rfl) rfl (by exact cl_v my_196 rfl rfl rfl (Nat.le_of_ble_eq_true rfl) rfl (MH_obj rfl rfl) rfl (by decide) rfl rfl) (by rfl) (Nat.le_of_ble_eq_true rfl) (Nat.le_of_ble_eq_true rfl) rfl (by rfl) ?_
        refine w_je (pc1 := 29) (vs := [.int (nI (bt B n k))]) (rest := []) (st1 := [.int 0]) (m_199f (d := _) (sl := 0) (bt_lt T) (by rw [bt_F]; exact hg)) rfl rfl rfl (fun _ _ => rfl) rfl (by exact cl_s my_199 rfl rfl rfl (Nat.le_of_ble_eq_true rfl) rfl rfl) (by rfl) (Nat.le_of_ble_eq_true rfl) (Nat.le_of_ble_eq_true rfl) rfl (by rfl) ?_
        refine w_t (a := 75) (b := 32) rfl rfl rfl ?_
        refine w_p (pc1 := 76) rfl rfl ?_
        refine w_p (pc1 := 77) rfl rfl ?_
        refine w_m0 (pc1 := 80) (st1 := .int (nI (p)) :: _) rfl rfl (h_gIe rfl rfl rfl rfl rfl (hp)) rfl ?_
        refine w_isub (pc1 := 81) (u := nI (k)) (v := nI (p)) (z := nI (k - p)) rfl (nK_sub (by omega)) rfl ?_
        refine w_p (pc1 := 83) (st1 := .int 8 :: _) rfl rfl ?_
        refine w_t (a := 91) (b := 86) (bN_le_t (a := k - p) (b := 8) (by omega) (by omega) (by omega)) rfl rfl ?_
        refine w_p (pc1 := 92) rfl rfl ?_
        refine w_p (pc1 := 93) rfl rfl ?_
        refine w_m0 (pc1 := 96) (st1 := .long (v) :: _) rfl rfl (h_gJe rfl rfl rfl rfl rfl (rfl)) rfl ?_
        refine w_je (pc1 := 99) (vs := [.long (v)]) (rest := [.ref 176]) (st1 := [.int 1, .ref 176]) (m_202t (d := _) (sl := 0) hw) rfl rfl rfl (fun _ _ => rfl) rfl (by exact cl_s my_202 rfl rfl rfl (Nat.le_of_ble_eq_true rfl) rfl rfl) (by rfl) (Nat.le_of_ble_eq_true rfl) (Nat.le_of_ble_eq_true rfl) rfl (by rfl) ?_
        refine w_f (a := 106) (b := 102) rfl rfl rfl ?_
        refine w_p (pc1 := 103) (st1 := .int 3 :: _) rfl rfl ?_
        refine w_p (pc1 := 107) rfl rfl ?_
        refine w_m0 (pc1 := 110) rfl rfl (h_pI (j := 4) rfl rfl rfl rfl rfl rfl rfl ⟨rfl, rfl⟩ rfl) rfl ?_
        refine w_p (pc1 := 111) rfl rfl ?_
        refine w_p (pc1 := 112) rfl rfl ?_
        refine w_m0 (pc1 := 115) rfl rfl (h_pI (j := 6) rfl rfl rfl rfl rfl rfl rfl ⟨rfl, rfl⟩ rfl) rfl ?_
        refine w_r rfl rfl rfl (fun _ _ => rfl) rfl ?_
        exact ⟨rfl, rfl, rfl⟩
      | false =>
        simp only [cond_false]
        refine w_p (pc1 := 11) rfl rfl ?_
        refine w_p (pc1 := 12) rfl rfl ?_
        refine w_je (pc1 := 15) (vs := [.ref 176, .int (nI (k))]) (rest := []) (st1 := [.int (nI (bt B n k))]) (m_196 (d := _) (sl := 0) (p := k) T2 (by omega)) rfl rfl rfl (fun _ _ => rfl) rfl (by exact cl_v my_196 rfl rfl rfl (Nat.le_of_ble_eq_true rfl) rfl (MH_obj rfl rfl) rfl (by decide) rfl rfl) (by rfl) (Nat.le_of_ble_eq_true rfl) (Nat.le_of_ble_eq_true rfl) rfl (by rfl) ?_
        refine w_je (pc1 := 18) (vs := [.int (nI (bt B n k))]) (rest := []) (st1 := [.int 0]) (m_197f (d := _) (sl := 0) (bt_lt T) (by rw [bt_L]; exact hl)) rfl rfl rfl (fun _ _ => rfl) rfl (by exact cl_s my_197 rfl rfl rfl (Nat.le_of_ble_eq_true rfl) rfl rfl) (by rfl) (Nat.le_of_ble_eq_true rfl) (Nat.le_of_ble_eq_true rfl) rfl (by rfl) ?_
        refine w_f (a := 32) (b := 21) rfl rfl rfl ?_
        refine w_p (pc1 := 22) rfl rfl ?_
        refine w_p (pc1 := 23) rfl rfl ?_
        refine w_je (pc1 := 26) (vs := [.ref 176, .int (nI (k))]) (rest := []) (st1 := [.int (nI (bt B n k))]) (m_196 (d := _) (sl := 0) (p := k) T2 (by omega)) rfl rfl rfl (fun _ _ => rfl) rfl (by exact cl_v my_196 rfl rfl rfl (Nat.le_of_ble_eq_true rfl) rfl (MH_obj rfl rfl) rfl (by decide) rfl rfl) (by rfl) (Nat.le_of_ble_eq_true rfl) (Nat.le_of_ble_eq_true rfl) rfl (by rfl) ?_
        refine w_je (pc1 := 29) (vs := [.int (nI (bt B n k))]) (rest := []) (st1 := [.int 0]) (m_199f (d := _) (sl := 0) (bt_lt T) (by rw [bt_F]; exact hg)) rfl rfl rfl (fun _ _ => rfl) rfl (by exact cl_s my_199 rfl rfl rfl (Nat.le_of_ble_eq_true rfl) rfl rfl) (by rfl) (Nat.le_of_ble_eq_true rfl) (Nat.le_of_ble_eq_true rfl) rfl (by rfl) ?_
        refine w_t (a := 75) (b := 32) rfl rfl rfl ?_
        refine w_p (pc1 := 76) rfl rfl ?_
        refine w_p (pc1 := 77) rfl rfl ?_
        refine w_m0 (pc1 := 80) (st1 := .int (nI (p)) :: _) rfl rfl (h_gIe rfl rfl rfl rfl rfl (hp)) rfl ?_
        refine w_isub (pc1 := 81) (u := nI (k)) (v := nI (p)) (z := nI (k - p)) rfl (nK_sub (by omega)) rfl ?_
        refine w_p (pc1 := 83) (st1 := .int 8 :: _) rfl rfl ?_
        refine w_t (a := 91) (b := 86) (bN_le_t (a := k - p) (b := 8) (by omega) (by omega) (by omega)) rfl rfl ?_
        refine w_p (pc1 := 92) rfl rfl ?_
        refine w_p (pc1 := 93) rfl rfl ?_
        refine w_m0 (pc1 := 96) (st1 := .long (v) :: _) rfl rfl (h_gJe rfl rfl rfl rfl rfl (rfl)) rfl ?_
        refine w_je (pc1 := 99) (vs := [.long (v)]) (rest := [.ref 176]) (st1 := [.int 0, .ref 176]) (m_202f (d := _) (sl := 0) hw) rfl rfl rfl (fun _ _ => rfl) rfl (by exact cl_s my_202 rfl rfl rfl (Nat.le_of_ble_eq_true rfl) rfl rfl) (by rfl) (Nat.le_of_ble_eq_true rfl) (Nat.le_of_ble_eq_true rfl) rfl (by rfl) ?_
        refine w_t (a := 106) (b := 102) rfl rfl rfl ?_
        refine w_p (pc1 := 107) (st1 := .int 1 :: _) rfl rfl ?_
        refine w_m0 (pc1 := 110) rfl rfl (h_pI (j := 4) rfl rfl rfl rfl rfl rfl rfl ⟨rfl, rfl⟩ rfl) rfl ?_
        refine w_p (pc1 := 111) rfl rfl ?_
        refine w_p (pc1 := 112) rfl rfl ?_
        refine w_m0 (pc1 := 115) rfl rfl (h_pI (j := 6) rfl rfl rfl rfl rfl rfl rfl ⟨rfl, rfl⟩ rfl) rfl ?_
        refine w_r rfl rfl rfl (fun _ _ => rfl) rfl ?_
        exact ⟨rfl, rfl, rfl⟩
  | f + 1, k, v, hf, hk => by
    have h6 := T.2.1
    have T2 : tpM (sJ C 76 7 v) B n := T
    have hn : k < n := by omega
    rw [adv, rlV]
    cases hl : atL B n k with
    | true =>
      simp only [Bool.true_or, cond_true]
      by_cases h8 : k - p < 8
      · rw [if_pos h8]
        refine w_p (pc1 := 11) rfl rfl ?_
        refine w_p (pc1 := 12) rfl rfl ?_
        refine w_je (pc1 := 15) (vs := [.ref 176, .int (nI (k))]) (rest := []) (st1 := [.int (nI (bt B n k))]) (m_196 (d := _) (sl := 0) (p := k) T2 (by omega)) rfl rfl rfl (fun _ _ => rfl) rfl (by exact cl_v my_196 rfl rfl rfl (Nat.le_of_ble_eq_true rfl) rfl (MH_obj rfl rfl) rfl (by decide) rfl rfl) (by rfl) (Nat.le_of_ble_eq_true rfl) (Nat.le_of_ble_eq_true rfl) rfl (by rfl) ?_
        refine w_je (pc1 := 18) (vs := [.int (nI (bt B n k))]) (rest := []) (st1 := [.int 1]) (m_197t (d := _) (sl := 0) (bt_lt T) (by rw [bt_L]; exact hl)) rfl rfl rfl (fun _ _ => rfl) rfl (by exact cl_s my_197 rfl rfl rfl (Nat.le_of_ble_eq_true rfl) rfl rfl) (by rfl) (Nat.le_of_ble_eq_true rfl) (Nat.le_of_ble_eq_true rfl) rfl (by rfl) ?_
        refine w_t (a := 32) (b := 21) rfl rfl rfl ?_
        refine w_p (pc1 := 33) rfl rfl ?_
        refine w_p (pc1 := 34) rfl rfl ?_
        refine w_p (pc1 := 35) rfl rfl ?_
        refine w_m0 (pc1 := 38) (st1 := .int (nI (p)) :: _) rfl rfl (h_gIe rfl rfl rfl rfl rfl (hp)) rfl ?_
        refine w_isub (pc1 := 39) (u := nI (k)) (v := nI (p)) (z := nI (k - p)) rfl (nK_sub (by omega)) rfl ?_
        refine w_p (pc1 := 41) (st1 := .int 8 :: _) rfl rfl ?_
        refine w_f (a := 62) (b := 44) (bN_ge_f (a := k - p) (b := 8) (by omega) (by omega) (by omega)) rfl rfl ?_
        refine w_p (pc1 := 45) rfl rfl ?_
        refine w_m0 (pc1 := 48) (st1 := .long (v) :: _) rfl rfl (h_gJe rfl rfl rfl rfl rfl (rfl)) rfl ?_
        refine w_p (pc1 := 50) (st1 := .int 8 :: _) rfl rfl ?_
        refine w_p (pc1 := 51) rfl rfl ?_
        refine w_p (pc1 := 52) rfl rfl ?_
        refine w_m0 (pc1 := 55) rfl rfl (h_gC rfl rfl rfl rfl) rfl ?_
        refine w_p (pc1 := 56) rfl rfl ?_
        refine w_m0 (pc1 := 57) (st1 := .int (nI (B k)) :: _) rfl rfl (n_ile (e := k) rfl rfl rfl (by omega) ((T.2.2 k hn).2)) rfl ?_
        refine w_p (pc1 := 58) rfl rfl ?_
        refine w_p (pc1 := 59) rfl rfl ?_
        refine w_p (pc1 := 66) rfl rfl ?_
        refine w_m0 (pc1 := 69) rfl rfl (h_pJ (j := 7) rfl rfl rfl rfl rfl rfl rfl ⟨rfl, rfl⟩ rfl) rfl ?_
        refine w_iinc (pc1 := 72) (u := nI (k)) (z := nI (k + 1)) (al1 := [(1, .int (nI (k + 1))), (0, .ref 176)]) rfl rfl rfl nK_1 rfl rfl ?_
        refine w_p (pc1 := 10) rfl rfl ?_
        rw [sJ_sJ]
        exact lp_198 T hp hL f (k + 1) _ (by omega) (by omega)
      · rw [if_neg h8]
        refine w_p (pc1 := 11) rfl rfl ?_
        refine w_p (pc1 := 12) rfl rfl ?_
        refine w_je (pc1 := 15) (vs := [.ref 176, .int (nI (k))]) (rest := []) (st1 := [.int (nI (bt B n k))]) (m_196 (d := _) (sl := 0) (p := k) T2 (by omega)) rfl rfl rfl (fun _ _ => rfl) rfl (by exact cl_v my_196 rfl rfl rfl (Nat.le_of_ble_eq_true rfl) rfl (MH_obj rfl rfl) rfl (by decide) rfl rfl) (by rfl) (Nat.le_of_ble_eq_true rfl) (Nat.le_of_ble_eq_true rfl) rfl (by rfl) ?_
        refine w_je (pc1 := 18) (vs := [.int (nI (bt B n k))]) (rest := []) (st1 := [.int 1]) (m_197t (d := _) (sl := 0) (bt_lt T) (by rw [bt_L]; exact hl)) rfl rfl rfl (fun _ _ => rfl) rfl (by exact cl_s my_197 rfl rfl rfl (Nat.le_of_ble_eq_true rfl) rfl rfl) (by rfl) (Nat.le_of_ble_eq_true rfl) (Nat.le_of_ble_eq_true rfl) rfl (by rfl) ?_
        refine w_t (a := 32) (b := 21) rfl rfl rfl ?_
        refine w_p (pc1 := 33) rfl rfl ?_
        refine w_p (pc1 := 34) rfl rfl ?_
        refine w_p (pc1 := 35) rfl rfl ?_
        refine w_m0 (pc1 := 38) (st1 := .int (nI (p)) :: _) rfl rfl (h_gIe rfl rfl rfl rfl rfl (hp)) rfl ?_
        refine w_isub (pc1 := 39) (u := nI (k)) (v := nI (p)) (z := nI (k - p)) rfl (nK_sub (by omega)) rfl ?_
        refine w_p (pc1 := 41) (st1 := .int 8 :: _) rfl rfl ?_
        refine w_t (a := 62) (b := 44) (bN_ge_t (a := k - p) (b := 8) (by omega) (by omega) (by omega)) rfl rfl ?_
        refine w_p (pc1 := 63) rfl rfl ?_
        refine w_m0 (pc1 := 66) (st1 := .long (v) :: _) rfl rfl (h_gJe rfl rfl rfl rfl rfl (rfl)) rfl ?_
        refine w_m0 (pc1 := 69) rfl rfl (h_pJ (j := 7) rfl rfl rfl rfl rfl rfl rfl ⟨rfl, rfl⟩ rfl) rfl ?_
        refine w_iinc (pc1 := 72) (u := nI (k)) (z := nI (k + 1)) (al1 := [(1, .int (nI (k + 1))), (0, .ref 176)]) rfl rfl rfl nK_1 rfl rfl ?_
        refine w_p (pc1 := 10) rfl rfl ?_
        rw [sJ_sJ]
        exact lp_198 T hp hL f (k + 1) _ (by omega) (by omega)
    | false =>
      cases hg : atF B n k with
      | true =>
        simp only [Bool.false_or, cond_true]
        by_cases h8 : k - p < 8
        · rw [if_pos h8]
          refine w_p (pc1 := 11) rfl rfl ?_
          refine w_p (pc1 := 12) rfl rfl ?_
          refine w_je (pc1 := 15) (vs := [.ref 176, .int (nI (k))]) (rest := []) (st1 := [.int (nI (bt B n k))]) (m_196 (d := _) (sl := 0) (p := k) T2 (by omega)) rfl rfl rfl (fun _ _ => rfl) rfl (by exact cl_v my_196 rfl rfl rfl (Nat.le_of_ble_eq_true rfl) rfl (MH_obj rfl rfl) rfl (by decide) rfl rfl) (by rfl) (Nat.le_of_ble_eq_true rfl) (Nat.le_of_ble_eq_true rfl) rfl (by rfl) ?_
          refine w_je (pc1 := 18) (vs := [.int (nI (bt B n k))]) (rest := []) (st1 := [.int 0]) (m_197f (d := _) (sl := 0) (bt_lt T) (by rw [bt_L]; exact hl)) rfl rfl rfl (fun _ _ => rfl) rfl (by exact cl_s my_197 rfl rfl rfl (Nat.le_of_ble_eq_true rfl) rfl rfl) (by rfl) (Nat.le_of_ble_eq_true rfl) (Nat.le_of_ble_eq_true rfl) rfl (by rfl) ?_
          refine w_f (a := 32) (b := 21) rfl rfl rfl ?_
          refine w_p (pc1 := 22) rfl rfl ?_
          refine w_p (pc1 := 23) rfl rfl ?_
          refine w_je (pc1 := 26) (vs := [.ref 176, .int (nI (k))]) (rest := []) (st1 := [.int (nI (bt B n k))]) (m_196 (d := _) (sl := 0) (p := k) T2 (by omega)) rfl rfl rfl (fun _ _ => rfl) rfl (by exact cl_v my_196 rfl rfl rfl (Nat.le_of_ble_eq_true rfl) rfl (MH_obj rfl rfl) rfl (by decide) rfl rfl) (by rfl) (Nat.le_of_ble_eq_true rfl) (Nat.le_of_ble_eq_true rfl) rfl (by rfl) ?_
          refine w_je (pc1 := 29) (vs := [.int (nI (bt B n k))]) (rest := []) (st1 := [.int 1]) (m_199t (d := _) (sl := 0) (bt_lt T) (by rw [bt_F]; exact hg)) rfl rfl rfl (fun _ _ => rfl) rfl (by exact cl_s my_199 rfl rfl rfl (Nat.le_of_ble_eq_true rfl) rfl rfl) (by rfl) (Nat.le_of_ble_eq_true rfl) (Nat.le_of_ble_eq_true rfl) rfl (by rfl) ?_
          refine w_f (a := 75) (b := 32) rfl rfl rfl ?_
          refine w_p (pc1 := 33) rfl rfl ?_
          refine w_p (pc1 := 34) rfl rfl ?_
          refine w_p (pc1 := 35) rfl rfl ?_
          refine w_m0 (pc1 := 38) (st1 := .int (nI (p)) :: _) rfl rfl (h_gIe rfl rfl rfl rfl rfl (hp)) rfl ?_
          refine w_isub (pc1 := 39) (u := nI (k)) (v := nI (p)) (z := nI (k - p)) rfl (nK_sub (by omega)) rfl ?_
          refine w_p (pc1 := 41) (st1 := .int 8 :: _) rfl rfl ?_
          refine w_f (a := 62) (b := 44) (bN_ge_f (a := k - p) (b := 8) (by omega) (by omega) (by omega)) rfl rfl ?_
          refine w_p (pc1 := 45) rfl rfl ?_
          refine w_m0 (pc1 := 48) (st1 := .long (v) :: _) rfl rfl (h_gJe rfl rfl rfl rfl rfl (rfl)) rfl ?_
          refine w_p (pc1 := 50) (st1 := .int 8 :: _) rfl rfl ?_
          refine w_p (pc1 := 51) rfl rfl ?_
          refine w_p (pc1 := 52) rfl rfl ?_
          refine w_m0 (pc1 := 55) rfl rfl (h_gC rfl rfl rfl rfl) rfl ?_
          refine w_p (pc1 := 56) rfl rfl ?_
          refine w_m0 (pc1 := 57) (st1 := .int (nI (B k)) :: _) rfl rfl (n_ile (e := k) rfl rfl rfl (by omega) ((T.2.2 k hn).2)) rfl ?_
          refine w_p (pc1 := 58) rfl rfl ?_
          refine w_p (pc1 := 59) rfl rfl ?_
          refine w_p (pc1 := 66) rfl rfl ?_
          refine w_m0 (pc1 := 69) rfl rfl (h_pJ (j := 7) rfl rfl rfl rfl rfl rfl rfl ⟨rfl, rfl⟩ rfl) rfl ?_
          refine w_iinc (pc1 := 72) (u := nI (k)) (z := nI (k + 1)) (al1 := [(1, .int (nI (k + 1))), (0, .ref 176)]) rfl rfl rfl nK_1 rfl rfl ?_
          refine w_p (pc1 := 10) rfl rfl ?_
          rw [sJ_sJ]
          exact lp_198 T hp hL f (k + 1) _ (by omega) (by omega)
        · rw [if_neg h8]
          refine w_p (pc1 := 11) rfl rfl ?_
          refine w_p (pc1 := 12) rfl rfl ?_
          refine w_je (pc1 := 15) (vs := [.ref 176, .int (nI (k))]) (rest := []) (st1 := [.int (nI (bt B n k))]) (m_196 (d := _) (sl := 0) (p := k) T2 (by omega)) rfl rfl rfl (fun _ _ => rfl) rfl (by exact cl_v my_196 rfl rfl rfl (Nat.le_of_ble_eq_true rfl) rfl (MH_obj rfl rfl) rfl (by decide) rfl rfl) (by rfl) (Nat.le_of_ble_eq_true rfl) (Nat.le_of_ble_eq_true rfl) rfl (by rfl) ?_
          refine w_je (pc1 := 18) (vs := [.int (nI (bt B n k))]) (rest := []) (st1 := [.int 0]) (m_197f (d := _) (sl := 0) (bt_lt T) (by rw [bt_L]; exact hl)) rfl rfl rfl (fun _ _ => rfl) rfl (by exact cl_s my_197 rfl rfl rfl (Nat.le_of_ble_eq_true rfl) rfl rfl) (by rfl) (Nat.le_of_ble_eq_true rfl) (Nat.le_of_ble_eq_true rfl) rfl (by rfl) ?_
          refine w_f (a := 32) (b := 21) rfl rfl rfl ?_
          refine w_p (pc1 := 22) rfl rfl ?_
          refine w_p (pc1 := 23) rfl rfl ?_
          refine w_je (pc1 := 26) (vs := [.ref 176, .int (nI (k))]) (rest := []) (st1 := [.int (nI (bt B n k))]) (m_196 (d := _) (sl := 0) (p := k) T2 (by omega)) rfl rfl rfl (fun _ _ => rfl) rfl (by exact cl_v my_196 rfl rfl rfl (Nat.le_of_ble_eq_true rfl) rfl (MH_obj rfl rfl) rfl (by decide) rfl rfl) (by rfl) (Nat.le_of_ble_eq_true rfl) (Nat.le_of_ble_eq_true rfl) rfl (by rfl) ?_
          refine w_je (pc1 := 29) (vs := [.int (nI (bt B n k))]) (rest := []) (st1 := [.int 1]) (m_199t (d := _) (sl := 0) (bt_lt T) (by rw [bt_F]; exact hg)) rfl rfl rfl (fun _ _ => rfl) rfl (by exact cl_s my_199 rfl rfl rfl (Nat.le_of_ble_eq_true rfl) rfl rfl) (by rfl) (Nat.le_of_ble_eq_true rfl) (Nat.le_of_ble_eq_true rfl) rfl (by rfl) ?_
          refine w_f (a := 75) (b := 32) rfl rfl rfl ?_
          refine w_p (pc1 := 33) rfl rfl ?_
          refine w_p (pc1 := 34) rfl rfl ?_
          refine w_p (pc1 := 35) rfl rfl ?_
          refine w_m0 (pc1 := 38) (st1 := .int (nI (p)) :: _) rfl rfl (h_gIe rfl rfl rfl rfl rfl (hp)) rfl ?_
          refine w_isub (pc1 := 39) (u := nI (k)) (v := nI (p)) (z := nI (k - p)) rfl (nK_sub (by omega)) rfl ?_
          refine w_p (pc1 := 41) (st1 := .int 8 :: _) rfl rfl ?_
          refine w_t (a := 62) (b := 44) (bN_ge_t (a := k - p) (b := 8) (by omega) (by omega) (by omega)) rfl rfl ?_
          refine w_p (pc1 := 63) rfl rfl ?_
          refine w_m0 (pc1 := 66) (st1 := .long (v) :: _) rfl rfl (h_gJe rfl rfl rfl rfl rfl (rfl)) rfl ?_
          refine w_m0 (pc1 := 69) rfl rfl (h_pJ (j := 7) rfl rfl rfl rfl rfl rfl rfl ⟨rfl, rfl⟩ rfl) rfl ?_
          refine w_iinc (pc1 := 72) (u := nI (k)) (z := nI (k + 1)) (al1 := [(1, .int (nI (k + 1))), (0, .ref 176)]) rfl rfl rfl nK_1 rfl rfl ?_
          refine w_p (pc1 := 10) rfl rfl ?_
          rw [sJ_sJ]
          exact lp_198 T hp hL f (k + 1) _ (by omega) (by omega)
      | false =>
        simp only [Bool.false_or, cond_false]
        by_cases h8 : 8 < k - p
        · rw [rlF, if_pos h8]
          cases hw : isWd v with
          | true =>
            simp only [cond_true]
            refine w_p (pc1 := 11) rfl rfl ?_
            refine w_p (pc1 := 12) rfl rfl ?_
            refine w_je (pc1 := 15) (vs := [.ref 176, .int (nI (k))]) (rest := []) (st1 := [.int (nI (bt B n k))]) (m_196 (d := _) (sl := 0) (p := k) T2 (by omega)) rfl rfl rfl (fun _ _ => rfl) rfl (by exact cl_v my_196 rfl rfl rfl (Nat.le_of_ble_eq_true rfl) rfl (MH_obj rfl rfl) rfl (by decide) rfl rfl) (by rfl) (Nat.le_of_ble_eq_true rfl) (Nat.le_of_ble_eq_true rfl) rfl (by rfl) ?_
            refine w_je (pc1 := 18) (vs := [.int (nI (bt B n k))]) (rest := []) (st1 := [.int 0]) (m_197f (d := _) (sl := 0) (bt_lt T) (by rw [bt_L]; exact hl)) rfl rfl rfl (fun _ _ => rfl) rfl (by exact cl_s my_197 rfl rfl rfl (Nat.le_of_ble_eq_true rfl) rfl rfl) (by rfl) (Nat.le_of_ble_eq_true rfl) (Nat.le_of_ble_eq_true rfl) rfl (by rfl) ?_
            refine w_f (a := 32) (b := 21) rfl rfl rfl ?_
            refine w_p (pc1 := 22) rfl rfl ?_
            refine w_p (pc1 := 23) rfl rfl ?_
            refine w_je (pc1 := 26) (vs := [.ref 176, .int (nI (k))]) (rest := []) (st1 := [.int (nI (bt B n k))]) (m_196 (d := _) (sl := 0) (p := k) T2 (by omega)) rfl rfl rfl (fun _ _ => rfl) rfl (by exact cl_v my_196 rfl rfl rfl (Nat.le_of_ble_eq_true rfl) rfl (MH_obj rfl rfl) rfl (by decide) rfl rfl) (by rfl) (Nat.le_of_ble_eq_true rfl) (Nat.le_of_ble_eq_true rfl) rfl (by rfl) ?_
            refine w_je (pc1 := 29) (vs := [.int (nI (bt B n k))]) (rest := []) (st1 := [.int 0]) (m_199f (d := _) (sl := 0) (bt_lt T) (by rw [bt_F]; exact hg)) rfl rfl rfl (fun _ _ => rfl) rfl (by exact cl_s my_199 rfl rfl rfl (Nat.le_of_ble_eq_true rfl) rfl rfl) (by rfl) (Nat.le_of_ble_eq_true rfl) (Nat.le_of_ble_eq_true rfl) rfl (by rfl) ?_
            refine w_t (a := 75) (b := 32) rfl rfl rfl ?_
            refine w_p (pc1 := 76) rfl rfl ?_
            refine w_p (pc1 := 77) rfl rfl ?_
            refine w_m0 (pc1 := 80) (st1 := .int (nI (p)) :: _) rfl rfl (h_gIe rfl rfl rfl rfl rfl (hp)) rfl ?_
            refine w_isub (pc1 := 81) (u := nI (k)) (v := nI (p)) (z := nI (k - p)) rfl (nK_sub (by omega)) rfl ?_
            refine w_p (pc1 := 83) (st1 := .int 8 :: _) rfl rfl ?_
            refine w_f (a := 91) (b := 86) (bN_le_f (a := k - p) (b := 8) (by omega) (by omega) (by omega)) rfl rfl ?_
            refine w_p (pc1 := 87) rfl rfl ?_
            refine w_p (pc1 := 88) (st1 := .int 1 :: _) rfl rfl ?_
            refine w_je (pc1 := 91) (vs := [.ref 176, .int 1]) (rest := []) (st1 := []) (m_200 (d := _) (sl := 0) (C := sJ C 76 7 v) hL) rfl rfl rfl (fun _ _ => rfl) rfl (by exact cl_v my_200 rfl rfl rfl (Nat.le_of_ble_eq_true rfl) rfl (MH_obj rfl rfl) rfl (by decide) rfl rfl) (by rfl) (Nat.le_of_ble_eq_true rfl) (Nat.le_of_ble_eq_true rfl) rfl (by rfl) ?_
            refine w_p (pc1 := 92) rfl rfl ?_
            refine w_p (pc1 := 93) rfl rfl ?_
            refine w_m0 (pc1 := 96) (st1 := .long (v) :: _) rfl rfl (h_gJe rfl rfl rfl rfl rfl (by rw [flt_2]; rfl)) rfl ?_
            refine w_je (pc1 := 99) (vs := [.long (v)]) (rest := [.ref 176]) (st1 := [.int 1, .ref 176]) (m_202t (d := _) (sl := 0) hw) rfl rfl rfl (fun _ _ => rfl) rfl (by exact cl_s my_202 rfl rfl rfl (Nat.le_of_ble_eq_true rfl) rfl rfl) (by rfl) (Nat.le_of_ble_eq_true rfl) (Nat.le_of_ble_eq_true rfl) rfl (by rfl) ?_
            refine w_f (a := 106) (b := 102) rfl rfl rfl ?_
            refine w_p (pc1 := 103) (st1 := .int 3 :: _) rfl rfl ?_
            refine w_p (pc1 := 107) rfl rfl ?_
            refine w_m0 (pc1 := 110) rfl rfl (h_pI (j := 4) rfl rfl rfl rfl rfl rfl rfl ⟨rfl, rfl⟩ rfl) rfl ?_
            refine w_p (pc1 := 111) rfl rfl ?_
            refine w_p (pc1 := 112) rfl rfl ?_
            refine w_m0 (pc1 := 115) rfl rfl (h_pI (j := 6) rfl rfl rfl rfl rfl rfl rfl ⟨rfl, rfl⟩ rfl) rfl ?_
            refine w_r rfl rfl rfl (fun _ _ => rfl) rfl ?_
            exact ⟨rfl, rfl, rfl⟩
          | false =>
            simp only [cond_false]
            refine w_p (pc1 := 11) rfl rfl ?_
            refine w_p (pc1 := 12) rfl rfl ?_
            refine w_je (pc1 := 15) (vs := [.ref 176, .int (nI (k))]) (rest := []) (st1 := [.int (nI (bt B n k))]) (m_196 (d := _) (sl := 0) (p := k) T2 (by omega)) rfl rfl rfl (fun _ _ => rfl) rfl (by exact cl_v my_196 rfl rfl rfl (Nat.le_of_ble_eq_true rfl) rfl (MH_obj rfl rfl) rfl (by decide) rfl rfl) (by rfl) (Nat.le_of_ble_eq_true rfl) (Nat.le_of_ble_eq_true rfl) rfl (by rfl) ?_
            refine w_je (pc1 := 18) (vs := [.int (nI (bt B n k))]) (rest := []) (st1 := [.int 0]) (m_197f (d := _) (sl := 0) (bt_lt T) (by rw [bt_L]; exact hl)) rfl rfl rfl (fun _ _ => rfl) rfl (by exact cl_s my_197 rfl rfl rfl (Nat.le_of_ble_eq_true rfl) rfl rfl) (by rfl) (Nat.le_of_ble_eq_true rfl) (Nat.le_of_ble_eq_true rfl) rfl (by rfl) ?_
            refine w_f (a := 32) (b := 21) rfl rfl rfl ?_
            refine w_p (pc1 := 22) rfl rfl ?_
            refine w_p (pc1 := 23) rfl rfl ?_
            refine w_je (pc1 := 26) (vs := [.ref 176, .int (nI (k))]) (rest := []) (st1 := [.int (nI (bt B n k))]) (m_196 (d := _) (sl := 0) (p := k) T2 (by omega)) rfl rfl rfl (fun _ _ => rfl) rfl (by exact cl_v my_196 rfl rfl rfl (Nat.le_of_ble_eq_true rfl) rfl (MH_obj rfl rfl) rfl (by decide) rfl rfl) (by rfl) (Nat.le_of_ble_eq_true rfl) (Nat.le_of_ble_eq_true rfl) rfl (by rfl) ?_
            refine w_je (pc1 := 29) (vs := [.int (nI (bt B n k))]) (rest := []) (st1 := [.int 0]) (m_199f (d := _) (sl := 0) (bt_lt T) (by rw [bt_F]; exact hg)) rfl rfl rfl (fun _ _ => rfl) rfl (by exact cl_s my_199 rfl rfl rfl (Nat.le_of_ble_eq_true rfl) rfl rfl) (by rfl) (Nat.le_of_ble_eq_true rfl) (Nat.le_of_ble_eq_true rfl) rfl (by rfl) ?_
            refine w_t (a := 75) (b := 32) rfl rfl rfl ?_
            refine w_p (pc1 := 76) rfl rfl ?_
            refine w_p (pc1 := 77) rfl rfl ?_
            refine w_m0 (pc1 := 80) (st1 := .int (nI (p)) :: _) rfl rfl (h_gIe rfl rfl rfl rfl rfl (hp)) rfl ?_
            refine w_isub (pc1 := 81) (u := nI (k)) (v := nI (p)) (z := nI (k - p)) rfl (nK_sub (by omega)) rfl ?_
            refine w_p (pc1 := 83) (st1 := .int 8 :: _) rfl rfl ?_
            refine w_f (a := 91) (b := 86) (bN_le_f (a := k - p) (b := 8) (by omega) (by omega) (by omega)) rfl rfl ?_
            refine w_p (pc1 := 87) rfl rfl ?_
            refine w_p (pc1 := 88) (st1 := .int 1 :: _) rfl rfl ?_
            refine w_je (pc1 := 91) (vs := [.ref 176, .int 1]) (rest := []) (st1 := []) (m_200 (d := _) (sl := 0) (C := sJ C 76 7 v) hL) rfl rfl rfl (fun _ _ => rfl) rfl (by exact cl_v my_200 rfl rfl rfl (Nat.le_of_ble_eq_true rfl) rfl (MH_obj rfl rfl) rfl (by decide) rfl rfl) (by rfl) (Nat.le_of_ble_eq_true rfl) (Nat.le_of_ble_eq_true rfl) rfl (by rfl) ?_
            refine w_p (pc1 := 92) rfl rfl ?_
            refine w_p (pc1 := 93) rfl rfl ?_
            refine w_m0 (pc1 := 96) (st1 := .long (v) :: _) rfl rfl (h_gJe rfl rfl rfl rfl rfl (by rw [flt_2]; rfl)) rfl ?_
            refine w_je (pc1 := 99) (vs := [.long (v)]) (rest := [.ref 176]) (st1 := [.int 0, .ref 176]) (m_202f (d := _) (sl := 0) hw) rfl rfl rfl (fun _ _ => rfl) rfl (by exact cl_s my_202 rfl rfl rfl (Nat.le_of_ble_eq_true rfl) rfl rfl) (by rfl) (Nat.le_of_ble_eq_true rfl) (Nat.le_of_ble_eq_true rfl) rfl (by rfl) ?_
            refine w_t (a := 106) (b := 102) rfl rfl rfl ?_
            refine w_p (pc1 := 107) (st1 := .int 1 :: _) rfl rfl ?_
            refine w_m0 (pc1 := 110) rfl rfl (h_pI (j := 4) rfl rfl rfl rfl rfl rfl rfl ⟨rfl, rfl⟩ rfl) rfl ?_
            refine w_p (pc1 := 111) rfl rfl ?_
            refine w_p (pc1 := 112) rfl rfl ?_
            refine w_m0 (pc1 := 115) rfl rfl (h_pI (j := 6) rfl rfl rfl rfl rfl rfl rfl ⟨rfl, rfl⟩ rfl) rfl ?_
            refine w_r rfl rfl rfl (fun _ _ => rfl) rfl ?_
            exact ⟨rfl, rfl, rfl⟩
        · rw [rlF, if_neg h8]
          cases hw : isWd v with
          | true =>
            simp only [cond_true]
            refine w_p (pc1 := 11) rfl rfl ?_
            refine w_p (pc1 := 12) rfl rfl ?_
            refine w_je (pc1 := 15) (vs := [.ref 176, .int (nI (k))]) (rest := []) (st1 := [.int (nI (bt B n k))]) (m_196 (d := _) (sl := 0) (p := k) T2 (by omega)) rfl rfl rfl (fun _ _ => rfl) rfl (by exact cl_v my_196 rfl rfl rfl (Nat.le_of_ble_eq_true rfl) rfl (MH_obj rfl rfl) rfl (by decide) rfl rfl) (by rfl) (Nat.le_of_ble_eq_true rfl) (Nat.le_of_ble_eq_true rfl) rfl (by rfl) ?_
            refine w_je (pc1 := 18) (vs := [.int (nI (bt B n k))]) (rest := []) (st1 := [.int 0]) (m_197f (d := _) (sl := 0) (bt_lt T) (by rw [bt_L]; exact hl)) rfl rfl rfl (fun _ _ => rfl) rfl (by exact cl_s my_197 rfl rfl rfl (Nat.le_of_ble_eq_true rfl) rfl rfl) (by rfl) (Nat.le_of_ble_eq_true rfl) (Nat.le_of_ble_eq_true rfl) rfl (by rfl) ?_
            refine w_f (a := 32) (b := 21) rfl rfl rfl ?_
            refine w_p (pc1 := 22) rfl rfl ?_
            refine w_p (pc1 := 23) rfl rfl ?_
            refine w_je (pc1 := 26) (vs := [.ref 176, .int (nI (k))]) (rest := []) (st1 := [.int (nI (bt B n k))]) (m_196 (d := _) (sl := 0) (p := k) T2 (by omega)) rfl rfl rfl (fun _ _ => rfl) rfl (by exact cl_v my_196 rfl rfl rfl (Nat.le_of_ble_eq_true rfl) rfl (MH_obj rfl rfl) rfl (by decide) rfl rfl) (by rfl) (Nat.le_of_ble_eq_true rfl) (Nat.le_of_ble_eq_true rfl) rfl (by rfl) ?_
            refine w_je (pc1 := 29) (vs := [.int (nI (bt B n k))]) (rest := []) (st1 := [.int 0]) (m_199f (d := _) (sl := 0) (bt_lt T) (by rw [bt_F]; exact hg)) rfl rfl rfl (fun _ _ => rfl) rfl (by exact cl_s my_199 rfl rfl rfl (Nat.le_of_ble_eq_true rfl) rfl rfl) (by rfl) (Nat.le_of_ble_eq_true rfl) (Nat.le_of_ble_eq_true rfl) rfl (by rfl) ?_
            refine w_t (a := 75) (b := 32) rfl rfl rfl ?_
            refine w_p (pc1 := 76) rfl rfl ?_
            refine w_p (pc1 := 77) rfl rfl ?_
            refine w_m0 (pc1 := 80) (st1 := .int (nI (p)) :: _) rfl rfl (h_gIe rfl rfl rfl rfl rfl (hp)) rfl ?_
            refine w_isub (pc1 := 81) (u := nI (k)) (v := nI (p)) (z := nI (k - p)) rfl (nK_sub (by omega)) rfl ?_
            refine w_p (pc1 := 83) (st1 := .int 8 :: _) rfl rfl ?_
            refine w_t (a := 91) (b := 86) (bN_le_t (a := k - p) (b := 8) (by omega) (by omega) (by omega)) rfl rfl ?_
            refine w_p (pc1 := 92) rfl rfl ?_
            refine w_p (pc1 := 93) rfl rfl ?_
            refine w_m0 (pc1 := 96) (st1 := .long (v) :: _) rfl rfl (h_gJe rfl rfl rfl rfl rfl (rfl)) rfl ?_
            refine w_je (pc1 := 99) (vs := [.long (v)]) (rest := [.ref 176]) (st1 := [.int 1, .ref 176]) (m_202t (d := _) (sl := 0) hw) rfl rfl rfl (fun _ _ => rfl) rfl (by exact cl_s my_202 rfl rfl rfl (Nat.le_of_ble_eq_true rfl) rfl rfl) (by rfl) (Nat.le_of_ble_eq_true rfl) (Nat.le_of_ble_eq_true rfl) rfl (by rfl) ?_
            refine w_f (a := 106) (b := 102) rfl rfl rfl ?_
            refine w_p (pc1 := 103) (st1 := .int 3 :: _) rfl rfl ?_
            refine w_p (pc1 := 107) rfl rfl ?_
            refine w_m0 (pc1 := 110) rfl rfl (h_pI (j := 4) rfl rfl rfl rfl rfl rfl rfl ⟨rfl, rfl⟩ rfl) rfl ?_
            refine w_p (pc1 := 111) rfl rfl ?_
            refine w_p (pc1 := 112) rfl rfl ?_
            refine w_m0 (pc1 := 115) rfl rfl (h_pI (j := 6) rfl rfl rfl rfl rfl rfl rfl ⟨rfl, rfl⟩ rfl) rfl ?_
            refine w_r rfl rfl rfl (fun _ _ => rfl) rfl ?_
            exact ⟨rfl, rfl, rfl⟩
          | false =>
            simp only [cond_false]
            refine w_p (pc1 := 11) rfl rfl ?_
            refine w_p (pc1 := 12) rfl rfl ?_
            refine w_je (pc1 := 15) (vs := [.ref 176, .int (nI (k))]) (rest := []) (st1 := [.int (nI (bt B n k))]) (m_196 (d := _) (sl := 0) (p := k) T2 (by omega)) rfl rfl rfl (fun _ _ => rfl) rfl (by exact cl_v my_196 rfl rfl rfl (Nat.le_of_ble_eq_true rfl) rfl (MH_obj rfl rfl) rfl (by decide) rfl rfl) (by rfl) (Nat.le_of_ble_eq_true rfl) (Nat.le_of_ble_eq_true rfl) rfl (by rfl) ?_
            refine w_je (pc1 := 18) (vs := [.int (nI (bt B n k))]) (rest := []) (st1 := [.int 0]) (m_197f (d := _) (sl := 0) (bt_lt T) (by rw [bt_L]; exact hl)) rfl rfl rfl (fun _ _ => rfl) rfl (by exact cl_s my_197 rfl rfl rfl (Nat.le_of_ble_eq_true rfl) rfl rfl) (by rfl) (Nat.le_of_ble_eq_true rfl) (Nat.le_of_ble_eq_true rfl) rfl (by rfl) ?_
            refine w_f (a := 32) (b := 21) rfl rfl rfl ?_
            refine w_p (pc1 := 22) rfl rfl ?_
            refine w_p (pc1 := 23) rfl rfl ?_
            refine w_je (pc1 := 26) (vs := [.ref 176, .int (nI (k))]) (rest := []) (st1 := [.int (nI (bt B n k))]) (m_196 (d := _) (sl := 0) (p := k) T2 (by omega)) rfl rfl rfl (fun _ _ => rfl) rfl (by exact cl_v my_196 rfl rfl rfl (Nat.le_of_ble_eq_true rfl) rfl (MH_obj rfl rfl) rfl (by decide) rfl rfl) (by rfl) (Nat.le_of_ble_eq_true rfl) (Nat.le_of_ble_eq_true rfl) rfl (by rfl) ?_
            refine w_je (pc1 := 29) (vs := [.int (nI (bt B n k))]) (rest := []) (st1 := [.int 0]) (m_199f (d := _) (sl := 0) (bt_lt T) (by rw [bt_F]; exact hg)) rfl rfl rfl (fun _ _ => rfl) rfl (by exact cl_s my_199 rfl rfl rfl (Nat.le_of_ble_eq_true rfl) rfl rfl) (by rfl) (Nat.le_of_ble_eq_true rfl) (Nat.le_of_ble_eq_true rfl) rfl (by rfl) ?_
            refine w_t (a := 75) (b := 32) rfl rfl rfl ?_
            refine w_p (pc1 := 76) rfl rfl ?_
            refine w_p (pc1 := 77) rfl rfl ?_
            refine w_m0 (pc1 := 80) (st1 := .int (nI (p)) :: _) rfl rfl (h_gIe rfl rfl rfl rfl rfl (hp)) rfl ?_
            refine w_isub (pc1 := 81) (u := nI (k)) (v := nI (p)) (z := nI (k - p)) rfl (nK_sub (by omega)) rfl ?_
            refine w_p (pc1 := 83) (st1 := .int 8 :: _) rfl rfl ?_
            refine w_t (a := 91) (b := 86) (bN_le_t (a := k - p) (b := 8) (by omega) (by omega) (by omega)) rfl rfl ?_
            refine w_p (pc1 := 92) rfl rfl ?_
            refine w_p (pc1 := 93) rfl rfl ?_
            refine w_m0 (pc1 := 96) (st1 := .long (v) :: _) rfl rfl (h_gJe rfl rfl rfl rfl rfl (rfl)) rfl ?_
            refine w_je (pc1 := 99) (vs := [.long (v)]) (rest := [.ref 176]) (st1 := [.int 0, .ref 176]) (m_202f (d := _) (sl := 0) hw) rfl rfl rfl (fun _ _ => rfl) rfl (by exact cl_s my_202 rfl rfl rfl (Nat.le_of_ble_eq_true rfl) rfl rfl) (by rfl) (Nat.le_of_ble_eq_true rfl) (Nat.le_of_ble_eq_true rfl) rfl (by rfl) ?_
            refine w_t (a := 106) (b := 102) rfl rfl rfl ?_
            refine w_p (pc1 := 107) (st1 := .int 1 :: _) rfl rfl ?_
            refine w_m0 (pc1 := 110) rfl rfl (h_pI (j := 4) rfl rfl rfl rfl rfl rfl rfl ⟨rfl, rfl⟩ rfl) rfl ?_
            refine w_p (pc1 := 111) rfl rfl ?_
            refine w_p (pc1 := 112) rfl rfl ?_
            refine w_m0 (pc1 := 115) rfl rfl (h_pI (j := 6) rfl rfl rfl rfl rfl rfl rfl ⟨rfl, rfl⟩ rfl) rfl ?_
            refine w_r rfl rfl rfl (fun _ _ => rfl) rfl ?_
            exact ⟨rfl, rfl, rfl⟩
set_option maxRecDepth 100000 in
theorem m_198 (T : tpM C B n) (hp : C.1 76 3 = nI p) (hL : orL C 1 (C.1 76 5)) (hn : p ≤ n) : Wd L xs (d + 2) y_198 (0, [(0, .ref 176)], [], MH C t, sl) (Rt none (MH (rlF C p (adv (fun i => atL B n i || atF B n i) (n - p) p) (rlV B n p (n - p) p 0)) t) sl) nX := by
  refine w_p (pc1 := 1) rfl rfl ?_
  refine w_p (pc1 := 2) (st1 := .long 0 :: _) rfl rfl ?_
  refine w_m0 (pc1 := 5) rfl rfl (h_pJ (j := 7) rfl rfl rfl rfl rfl rfl rfl ⟨rfl, rfl⟩ rfl) rfl ?_
  refine w_p (pc1 := 6) rfl rfl ?_
  refine w_m0 (pc1 := 9) (st1 := .int (nI (p)) :: _) rfl rfl (h_gIe rfl rfl rfl rfl rfl (hp)) rfl ?_
  refine w_p (pc1 := 10) (al1 := [(1, .int (nI (p))), (0, .ref 176)]) rfl rfl ?_
  exact lp_198 T hp hL (n - p) p 0 (by omega) (Nat.le_refl _)
set_option maxRecDepth 100000 in
theorem lp_203 (T : tpM C B n) (hp : C.1 76 3 = nI p) (hL : orL C 1 (C.1 76 5)) : ∀ (f k : Nat) (v : Int64), k + f = n → p ≤ k → Wd L xs (d + 2) y_203 (10, [(1, .int (nI k)), (0, .ref 176)], [], MH (sJ C 76 7 v) t, sl) (Rt none (MH (rfF C p (adv (atF B n) f k) (rfV B n p f k v)) t) sl) nX
  | 0, k, v, hf, hk => by
    have h6 := T.2.1
    have T2 : tpM (sJ C 76 7 v) B n := T
    have hg : atF B n k = false := by rw [atF, decide_eq_false (by omega)]; rfl
    rw [adv, rfV]
    by_cases h9 : 9 < k - p
    · rw [rfF, if_pos h9]
      refine w_p (pc1 := 11) rfl rfl ?_
      refine w_p (pc1 := 12) rfl rfl ?_
      refine w_je (pc1 := 15) (vs := [.ref 176, .int (nI (k))]) (rest := []) (st1 := [.int (nI (bt B n k))]) (m_196 (d := _) (sl := 0) (p := k) T2 (by omega)) rfl rfl rfl (fun _ _ => rfl) rfl (by exact cl_v my_196 rfl rfl rfl (Nat.le_of_ble_eq_true rfl) rfl (MH_obj rfl rfl) rfl (by decide) rfl rfl) (by rfl) (Nat.le_of_ble_eq_true rfl) (Nat.le_of_ble_eq_true rfl) rfl (by rfl) ?_
      refine w_je (pc1 := 18) (vs := [.int (nI (bt B n k))]) (rest := []) (st1 := [.int 0]) (m_199f (d := _) (sl := 0) (bt_lt T) (by rw [bt_F]; exact hg)) rfl rfl rfl (fun _ _ => rfl) rfl (by exact cl_s my_199 rfl rfl rfl (Nat.le_of_ble_eq_true rfl) rfl rfl) (by rfl) (Nat.le_of_ble_eq_true rfl) (Nat.le_of_ble_eq_true rfl) rfl (by rfl) ?_
      refine w_t (a := 69) (b := 21) rfl rfl rfl ?_
      refine w_p (pc1 := 70) rfl rfl ?_
      refine w_p (pc1 := 71) rfl rfl ?_
      refine w_m0 (pc1 := 74) (st1 := .int (nI (p)) :: _) rfl rfl (h_gIe rfl rfl rfl rfl rfl (hp)) rfl ?_
      refine w_isub (pc1 := 75) (u := nI (k)) (v := nI (p)) (z := nI (k - p)) rfl (nK_sub (by omega)) rfl ?_
      refine w_p (pc1 := 77) (st1 := .int 9 :: _) rfl rfl ?_
      refine w_f (a := 85) (b := 80) (bN_le_f (a := k - p) (b := 9) (by omega) (by omega) (by omega)) rfl rfl ?_
      refine w_p (pc1 := 81) rfl rfl ?_
      refine w_p (pc1 := 82) (st1 := .int 1 :: _) rfl rfl ?_
      refine w_je (pc1 := 85) (vs := [.ref 176, .int 1]) (rest := []) (st1 := []) (m_200 (d := _) (sl := 0) (C := sJ C 76 7 v) hL) rfl rfl rfl (fun _ _ => rfl) rfl (by exact cl_v my_200 rfl rfl rfl (Nat.le_of_ble_eq_true rfl) rfl (MH_obj rfl rfl) rfl (by decide) rfl rfl) (by rfl) (Nat.le_of_ble_eq_true rfl) (Nat.le_of_ble_eq_true rfl) rfl (by rfl) ?_
      refine w_p (pc1 := 86) rfl rfl ?_
      refine w_p (pc1 := 87) (st1 := .int 2 :: _) rfl rfl ?_
      refine w_m0 (pc1 := 90) rfl rfl (h_pI (j := 4) rfl rfl rfl rfl rfl rfl rfl ⟨rfl, rfl⟩ rfl) rfl ?_
      refine w_p (pc1 := 91) rfl rfl ?_
      refine w_p (pc1 := 92) rfl rfl ?_
      refine w_m0 (pc1 := 95) rfl rfl (h_pI (j := 6) rfl rfl rfl rfl rfl rfl rfl ⟨rfl, rfl⟩ rfl) rfl ?_
      refine w_r rfl rfl rfl (fun _ _ => rfl) rfl ?_
      exact ⟨rfl, rfl, rfl⟩
    · rw [rfF, if_neg h9]
      refine w_p (pc1 := 11) rfl rfl ?_
      refine w_p (pc1 := 12) rfl rfl ?_
      refine w_je (pc1 := 15) (vs := [.ref 176, .int (nI (k))]) (rest := []) (st1 := [.int (nI (bt B n k))]) (m_196 (d := _) (sl := 0) (p := k) T2 (by omega)) rfl rfl rfl (fun _ _ => rfl) rfl (by exact cl_v my_196 rfl rfl rfl (Nat.le_of_ble_eq_true rfl) rfl (MH_obj rfl rfl) rfl (by decide) rfl rfl) (by rfl) (Nat.le_of_ble_eq_true rfl) (Nat.le_of_ble_eq_true rfl) rfl (by rfl) ?_
      refine w_je (pc1 := 18) (vs := [.int (nI (bt B n k))]) (rest := []) (st1 := [.int 0]) (m_199f (d := _) (sl := 0) (bt_lt T) (by rw [bt_F]; exact hg)) rfl rfl rfl (fun _ _ => rfl) rfl (by exact cl_s my_199 rfl rfl rfl (Nat.le_of_ble_eq_true rfl) rfl rfl) (by rfl) (Nat.le_of_ble_eq_true rfl) (Nat.le_of_ble_eq_true rfl) rfl (by rfl) ?_
      refine w_t (a := 69) (b := 21) rfl rfl rfl ?_
      refine w_p (pc1 := 70) rfl rfl ?_
      refine w_p (pc1 := 71) rfl rfl ?_
      refine w_m0 (pc1 := 74) (st1 := .int (nI (p)) :: _) rfl rfl (h_gIe rfl rfl rfl rfl rfl (hp)) rfl ?_
      refine w_isub (pc1 := 75) (u := nI (k)) (v := nI (p)) (z := nI (k - p)) rfl (nK_sub (by omega)) rfl ?_
      refine w_p (pc1 := 77) (st1 := .int 9 :: _) rfl rfl ?_
      refine w_t (a := 85) (b := 80) (bN_le_t (a := k - p) (b := 9) (by omega) (by omega) (by omega)) rfl rfl ?_
      refine w_p (pc1 := 86) rfl rfl ?_
      refine w_p (pc1 := 87) (st1 := .int 2 :: _) rfl rfl ?_
      refine w_m0 (pc1 := 90) rfl rfl (h_pI (j := 4) rfl rfl rfl rfl rfl rfl rfl ⟨rfl, rfl⟩ rfl) rfl ?_
      refine w_p (pc1 := 91) rfl rfl ?_
      refine w_p (pc1 := 92) rfl rfl ?_
      refine w_m0 (pc1 := 95) rfl rfl (h_pI (j := 6) rfl rfl rfl rfl rfl rfl rfl ⟨rfl, rfl⟩ rfl) rfl ?_
      refine w_r rfl rfl rfl (fun _ _ => rfl) rfl ?_
      exact ⟨rfl, rfl, rfl⟩
  | f + 1, k, v, hf, hk => by
    have h6 := T.2.1
    have T2 : tpM (sJ C 76 7 v) B n := T
    have hn : k < n := by omega
    rw [adv, rfV]
    cases hg : atF B n k with
    | true =>
      simp only [cond_true]
      by_cases h9 : k - p < 9
      · rw [if_pos h9]
        refine w_p (pc1 := 11) rfl rfl ?_
        refine w_p (pc1 := 12) rfl rfl ?_
        refine w_je (pc1 := 15) (vs := [.ref 176, .int (nI (k))]) (rest := []) (st1 := [.int (nI (bt B n k))]) (m_196 (d := _) (sl := 0) (p := k) T2 (by omega)) rfl rfl rfl (fun _ _ => rfl) rfl (by exact cl_v my_196 rfl rfl rfl (Nat.le_of_ble_eq_true rfl) rfl (MH_obj rfl rfl) rfl (by decide) rfl rfl) (by rfl) (Nat.le_of_ble_eq_true rfl) (Nat.le_of_ble_eq_true rfl) rfl (by rfl) ?_
        refine w_je (pc1 := 18) (vs := [.int (nI (bt B n k))]) (rest := []) (st1 := [.int 1]) (m_199t (d := _) (sl := 0) (bt_lt T) (by rw [bt_F]; exact hg)) rfl rfl rfl (fun _ _ => rfl) rfl (by exact cl_s my_199 rfl rfl rfl (Nat.le_of_ble_eq_true rfl) rfl rfl) (by rfl) (Nat.le_of_ble_eq_true rfl) (Nat.le_of_ble_eq_true rfl) rfl (by rfl) ?_
        refine w_f (a := 69) (b := 21) rfl rfl rfl ?_
        refine w_p (pc1 := 22) rfl rfl ?_
        refine w_p (pc1 := 23) rfl rfl ?_
        refine w_p (pc1 := 24) rfl rfl ?_
        refine w_m0 (pc1 := 27) (st1 := .int (nI (p)) :: _) rfl rfl (h_gIe rfl rfl rfl rfl rfl (hp)) rfl ?_
        refine w_isub (pc1 := 28) (u := nI (k)) (v := nI (p)) (z := nI (k - p)) rfl (nK_sub (by omega)) rfl ?_
        refine w_p (pc1 := 30) (st1 := .int 9 :: _) rfl rfl ?_
        refine w_f (a := 56) (b := 33) (bN_ge_f (a := k - p) (b := 9) (by omega) (by omega) (by omega)) rfl rfl ?_
        refine w_m0 (pc1 := 36) (st1 := .long 10 :: _) rfl rfl rfl rfl ?_
        refine w_p (pc1 := 37) rfl rfl ?_
        refine w_m0 (pc1 := 40) (st1 := .long (v) :: _) rfl rfl (h_gJe rfl rfl rfl rfl rfl (rfl)) rfl ?_
        refine w_p (pc1 := 41) rfl rfl ?_
        refine w_p (pc1 := 42) rfl rfl ?_
        refine w_m0 (pc1 := 45) rfl rfl (h_gC rfl rfl rfl rfl) rfl ?_
        refine w_p (pc1 := 46) rfl rfl ?_
        refine w_m0 (pc1 := 47) (st1 := .int (nI (B k)) :: _) rfl rfl (n_ile (e := k) rfl rfl rfl (by omega) ((T.2.2 k hn).2)) rfl ?_
        refine w_p (pc1 := 48) rfl rfl ?_
        refine w_p (pc1 := 49) rfl rfl ?_
        refine w_m0 (pc1 := 52) (st1 := .long 48 :: _) rfl rfl rfl rfl ?_
        refine w_p (pc1 := 53) rfl rfl ?_
        refine w_p (pc1 := 60) rfl rfl ?_
        refine w_m0 (pc1 := 63) rfl rfl (h_pJ (j := 7) rfl rfl rfl rfl rfl rfl rfl ⟨rfl, rfl⟩ rfl) rfl ?_
        refine w_iinc (pc1 := 66) (u := nI (k)) (z := nI (k + 1)) (al1 := [(1, .int (nI (k + 1))), (0, .ref 176)]) rfl rfl rfl nK_1 rfl rfl ?_
        refine w_p (pc1 := 10) rfl rfl ?_
        rw [sJ_sJ]
        exact lp_203 T hp hL f (k + 1) _ (by omega) (by omega)
      · rw [if_neg h9]
        refine w_p (pc1 := 11) rfl rfl ?_
        refine w_p (pc1 := 12) rfl rfl ?_
        refine w_je (pc1 := 15) (vs := [.ref 176, .int (nI (k))]) (rest := []) (st1 := [.int (nI (bt B n k))]) (m_196 (d := _) (sl := 0) (p := k) T2 (by omega)) rfl rfl rfl (fun _ _ => rfl) rfl (by exact cl_v my_196 rfl rfl rfl (Nat.le_of_ble_eq_true rfl) rfl (MH_obj rfl rfl) rfl (by decide) rfl rfl) (by rfl) (Nat.le_of_ble_eq_true rfl) (Nat.le_of_ble_eq_true rfl) rfl (by rfl) ?_
        refine w_je (pc1 := 18) (vs := [.int (nI (bt B n k))]) (rest := []) (st1 := [.int 1]) (m_199t (d := _) (sl := 0) (bt_lt T) (by rw [bt_F]; exact hg)) rfl rfl rfl (fun _ _ => rfl) rfl (by exact cl_s my_199 rfl rfl rfl (Nat.le_of_ble_eq_true rfl) rfl rfl) (by rfl) (Nat.le_of_ble_eq_true rfl) (Nat.le_of_ble_eq_true rfl) rfl (by rfl) ?_
        refine w_f (a := 69) (b := 21) rfl rfl rfl ?_
        refine w_p (pc1 := 22) rfl rfl ?_
        refine w_p (pc1 := 23) rfl rfl ?_
        refine w_p (pc1 := 24) rfl rfl ?_
        refine w_m0 (pc1 := 27) (st1 := .int (nI (p)) :: _) rfl rfl (h_gIe rfl rfl rfl rfl rfl (hp)) rfl ?_
        refine w_isub (pc1 := 28) (u := nI (k)) (v := nI (p)) (z := nI (k - p)) rfl (nK_sub (by omega)) rfl ?_
        refine w_p (pc1 := 30) (st1 := .int 9 :: _) rfl rfl ?_
        refine w_t (a := 56) (b := 33) (bN_ge_t (a := k - p) (b := 9) (by omega) (by omega) (by omega)) rfl rfl ?_
        refine w_p (pc1 := 57) rfl rfl ?_
        refine w_m0 (pc1 := 60) (st1 := .long (v) :: _) rfl rfl (h_gJe rfl rfl rfl rfl rfl (rfl)) rfl ?_
        refine w_m0 (pc1 := 63) rfl rfl (h_pJ (j := 7) rfl rfl rfl rfl rfl rfl rfl ⟨rfl, rfl⟩ rfl) rfl ?_
        refine w_iinc (pc1 := 66) (u := nI (k)) (z := nI (k + 1)) (al1 := [(1, .int (nI (k + 1))), (0, .ref 176)]) rfl rfl rfl nK_1 rfl rfl ?_
        refine w_p (pc1 := 10) rfl rfl ?_
        rw [sJ_sJ]
        exact lp_203 T hp hL f (k + 1) _ (by omega) (by omega)
    | false =>
      simp only [cond_false]
      by_cases h9 : 9 < k - p
      · rw [rfF, if_pos h9]
        refine w_p (pc1 := 11) rfl rfl ?_
        refine w_p (pc1 := 12) rfl rfl ?_
        refine w_je (pc1 := 15) (vs := [.ref 176, .int (nI (k))]) (rest := []) (st1 := [.int (nI (bt B n k))]) (m_196 (d := _) (sl := 0) (p := k) T2 (by omega)) rfl rfl rfl (fun _ _ => rfl) rfl (by exact cl_v my_196 rfl rfl rfl (Nat.le_of_ble_eq_true rfl) rfl (MH_obj rfl rfl) rfl (by decide) rfl rfl) (by rfl) (Nat.le_of_ble_eq_true rfl) (Nat.le_of_ble_eq_true rfl) rfl (by rfl) ?_
        refine w_je (pc1 := 18) (vs := [.int (nI (bt B n k))]) (rest := []) (st1 := [.int 0]) (m_199f (d := _) (sl := 0) (bt_lt T) (by rw [bt_F]; exact hg)) rfl rfl rfl (fun _ _ => rfl) rfl (by exact cl_s my_199 rfl rfl rfl (Nat.le_of_ble_eq_true rfl) rfl rfl) (by rfl) (Nat.le_of_ble_eq_true rfl) (Nat.le_of_ble_eq_true rfl) rfl (by rfl) ?_
        refine w_t (a := 69) (b := 21) rfl rfl rfl ?_
        refine w_p (pc1 := 70) rfl rfl ?_
        refine w_p (pc1 := 71) rfl rfl ?_
        refine w_m0 (pc1 := 74) (st1 := .int (nI (p)) :: _) rfl rfl (h_gIe rfl rfl rfl rfl rfl (hp)) rfl ?_
        refine w_isub (pc1 := 75) (u := nI (k)) (v := nI (p)) (z := nI (k - p)) rfl (nK_sub (by omega)) rfl ?_
        refine w_p (pc1 := 77) (st1 := .int 9 :: _) rfl rfl ?_
        refine w_f (a := 85) (b := 80) (bN_le_f (a := k - p) (b := 9) (by omega) (by omega) (by omega)) rfl rfl ?_
        refine w_p (pc1 := 81) rfl rfl ?_
        refine w_p (pc1 := 82) (st1 := .int 1 :: _) rfl rfl ?_
        refine w_je (pc1 := 85) (vs := [.ref 176, .int 1]) (rest := []) (st1 := []) (m_200 (d := _) (sl := 0) (C := sJ C 76 7 v) hL) rfl rfl rfl (fun _ _ => rfl) rfl (by exact cl_v my_200 rfl rfl rfl (Nat.le_of_ble_eq_true rfl) rfl (MH_obj rfl rfl) rfl (by decide) rfl rfl) (by rfl) (Nat.le_of_ble_eq_true rfl) (Nat.le_of_ble_eq_true rfl) rfl (by rfl) ?_
        refine w_p (pc1 := 86) rfl rfl ?_
        refine w_p (pc1 := 87) (st1 := .int 2 :: _) rfl rfl ?_
        refine w_m0 (pc1 := 90) rfl rfl (h_pI (j := 4) rfl rfl rfl rfl rfl rfl rfl ⟨rfl, rfl⟩ rfl) rfl ?_
        refine w_p (pc1 := 91) rfl rfl ?_
        refine w_p (pc1 := 92) rfl rfl ?_
        refine w_m0 (pc1 := 95) rfl rfl (h_pI (j := 6) rfl rfl rfl rfl rfl rfl rfl ⟨rfl, rfl⟩ rfl) rfl ?_
        refine w_r rfl rfl rfl (fun _ _ => rfl) rfl ?_
        exact ⟨rfl, rfl, rfl⟩
      · rw [rfF, if_neg h9]
        refine w_p (pc1 := 11) rfl rfl ?_
        refine w_p (pc1 := 12) rfl rfl ?_
        refine w_je (pc1 := 15) (vs := [.ref 176, .int (nI (k))]) (rest := []) (st1 := [.int (nI (bt B n k))]) (m_196 (d := _) (sl := 0) (p := k) T2 (by omega)) rfl rfl rfl (fun _ _ => rfl) rfl (by exact cl_v my_196 rfl rfl rfl (Nat.le_of_ble_eq_true rfl) rfl (MH_obj rfl rfl) rfl (by decide) rfl rfl) (by rfl) (Nat.le_of_ble_eq_true rfl) (Nat.le_of_ble_eq_true rfl) rfl (by rfl) ?_
        refine w_je (pc1 := 18) (vs := [.int (nI (bt B n k))]) (rest := []) (st1 := [.int 0]) (m_199f (d := _) (sl := 0) (bt_lt T) (by rw [bt_F]; exact hg)) rfl rfl rfl (fun _ _ => rfl) rfl (by exact cl_s my_199 rfl rfl rfl (Nat.le_of_ble_eq_true rfl) rfl rfl) (by rfl) (Nat.le_of_ble_eq_true rfl) (Nat.le_of_ble_eq_true rfl) rfl (by rfl) ?_
        refine w_t (a := 69) (b := 21) rfl rfl rfl ?_
        refine w_p (pc1 := 70) rfl rfl ?_
        refine w_p (pc1 := 71) rfl rfl ?_
        refine w_m0 (pc1 := 74) (st1 := .int (nI (p)) :: _) rfl rfl (h_gIe rfl rfl rfl rfl rfl (hp)) rfl ?_
        refine w_isub (pc1 := 75) (u := nI (k)) (v := nI (p)) (z := nI (k - p)) rfl (nK_sub (by omega)) rfl ?_
        refine w_p (pc1 := 77) (st1 := .int 9 :: _) rfl rfl ?_
        refine w_t (a := 85) (b := 80) (bN_le_t (a := k - p) (b := 9) (by omega) (by omega) (by omega)) rfl rfl ?_
        refine w_p (pc1 := 86) rfl rfl ?_
        refine w_p (pc1 := 87) (st1 := .int 2 :: _) rfl rfl ?_
        refine w_m0 (pc1 := 90) rfl rfl (h_pI (j := 4) rfl rfl rfl rfl rfl rfl rfl ⟨rfl, rfl⟩ rfl) rfl ?_
        refine w_p (pc1 := 91) rfl rfl ?_
        refine w_p (pc1 := 92) rfl rfl ?_
        refine w_m0 (pc1 := 95) rfl rfl (h_pI (j := 6) rfl rfl rfl rfl rfl rfl rfl ⟨rfl, rfl⟩ rfl) rfl ?_
        refine w_r rfl rfl rfl (fun _ _ => rfl) rfl ?_
        exact ⟨rfl, rfl, rfl⟩
set_option maxRecDepth 100000 in
theorem m_203 (T : tpM C B n) (hp : C.1 76 3 = nI p) (hL : orL C 1 (C.1 76 5)) (hn : p ≤ n) : Wd L xs (d + 2) y_203 (0, [(0, .ref 176)], [], MH C t, sl) (Rt none (MH (rfF C p (adv (atF B n) (n - p) p) (rfV B n p (n - p) p 0)) t) sl) nX := by
  refine w_p (pc1 := 1) rfl rfl ?_
  refine w_p (pc1 := 2) (st1 := .long 0 :: _) rfl rfl ?_
  refine w_m0 (pc1 := 5) rfl rfl (h_pJ (j := 7) rfl rfl rfl rfl rfl rfl rfl ⟨rfl, rfl⟩ rfl) rfl ?_
  refine w_p (pc1 := 6) rfl rfl ?_
  refine w_m0 (pc1 := 9) (st1 := .int (nI (p)) :: _) rfl rfl (h_gIe rfl rfl rfl rfl rfl (hp)) rfl ?_
  refine w_p (pc1 := 10) (al1 := [(1, .int (nI (p))), (0, .ref 176)]) rfl rfl ?_
  exact lp_203 T hp hL (n - p) p 0 (by omega) (Nat.le_refl _)
end MT2
