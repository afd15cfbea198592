/-! FEED, on both sides -/
section FED
variable {L : Nat} {xs : Nat → Int32} {C : co_T} {t : ab_H} {d sl : Nat}
set_option maxRecDepth 100000 in
theorem add_int {a b : Int32} (h0 : -2147483648 ≤ a.toInt + b.toInt) (h1 : a.toInt + b.toInt < 2147483648) : (a + b).toInt = a.toInt + b.toInt := by
  rw [Int32.toInt_add]
  exact Int.bmod_eq_of_le (by simpa using h0) (by simpa using h1)
set_option maxRecDepth 100000 in
theorem sub_int {a b : Int32} (h0 : -2147483648 ≤ a.toInt - b.toInt) (h1 : a.toInt - b.toInt < 2147483648) : (a - b).toInt = a.toInt - b.toInt := by
  rw [Int32.toInt_sub]
  exact Int.bmod_eq_of_le (by simpa using h0) (by simpa using h1)
set_option maxRecDepth 100000 in
theorem nK_s {m : Nat} : nI (m + 1) - 1 = nI m := by
  rw [← nK_1]
  exact Int32.add_sub_cancel _ _
set_option maxRecDepth 100000 in
theorem nK_p {m : Nat} : nI m + Int32.ofInt (-1) = nI m - 1 := by
  rw [Int32.sub_eq_add_neg]
  rfl
def byK (b : Int64) (m : Nat) : Int32 := vp_nar (ab_ty 2) ((b >>> ((8 * nI m).toInt64 &&& 63)).toInt32.toInt8.toInt32)
def apK (C : co_T) (b : Int64) : Nat → co_T
  | 0 => C
  | m + 1 => apK (sI (sI C 2 (C.1 1 4).toNatClampNeg (byK b m)) 1 4 (C.1 1 4 + 1)) b m
def byM (b : Int64) (m : Nat) : Int32 := ((b >>> ((8 * nI m).toInt64 &&& 63)) &&& 255).toInt32
def apM (C : co_T) (b : Int64) : Nat → co_T
  | 0 => C
  | m + 1 => apM (sI (sI C 77 (C.1 76 2).toNatClampNeg (byM b m)) 76 2 (C.1 76 2 + 1)) b m
set_option maxRecDepth 100000 in
theorem lp_164 {b : Int64} {n : Int32} : ∀ (m l : Nat) (C : co_T), C.1 1 4 = nI l → l + m ≤ 600 → Wd L xs d y_164 (5, [(4, .int (nI m - 1)), (0, .ref 101), (1, .long b), (3, .int n)], [], MH C t, sl) (Rt none (MH (apK C b m) t) sl) nX
  | 0, l, C, hl, h6 => by
    refine w_p (pc1 := 7) rfl rfl ?_
    refine w_t (a := 54) (b := 10) (cb_lt_t (by decide)) rfl rfl ?_
    refine w_r rfl rfl rfl (fun _ _ => rfl) rfl ?_
    exact ⟨rfl, rfl, rfl⟩
  | m + 1, l, C, hl, h6 => by
    rw [nK_s]
    refine w_p (pc1 := 7) rfl rfl ?_
    refine w_f (a := 54) (b := 10) (cb_lt_f (by rw [nK_int (by omega)]; show (0 : Int) ≤ _; omega)) rfl rfl ?_
    refine w_p (pc1 := 11) rfl rfl ?_
    refine w_m0 (pc1 := 14) rfl rfl (h_gI rfl rfl rfl rfl rfl) rfl ?_
    refine w_p (pc1 := 17) (st1 := .int 600 :: _) rfl rfl ?_
    refine w_f (a := 54) (b := 20) (cb_ge_f (by rw [hl, nK_int (by omega)]; show _ < (600 : Int); omega)) rfl rfl ?_
    refine w_p (pc1 := 21) rfl rfl ?_
    refine w_m0 (pc1 := 24) rfl rfl (h_gC rfl rfl rfl rfl) rfl ?_
    refine w_p (pc1 := 25) rfl rfl ?_
    refine w_m0 (pc1 := 28) rfl rfl (h_gI rfl rfl rfl rfl rfl) rfl ?_
    refine w_p (pc1 := 29) rfl rfl ?_
    refine w_p (pc1 := 31) (st1 := .int 8 :: _) rfl rfl ?_
    refine w_p (pc1 := 33) rfl rfl ?_
    refine w_p (pc1 := 34) rfl rfl ?_
    refine w_p (pc1 := 35) rfl rfl ?_
    refine w_p (pc1 := 36) rfl rfl ?_
    refine w_p (pc1 := 37) rfl rfl ?_
    refine w_m0 (pc1 := 38) rfl rfl (h_bs rfl rfl (by decide) (by rw [hl]; exact in_ok (by rw [nK_int (by omega)]; omega) (by rw [nK_int (by omega)]; omega))) rfl ?_
    refine w_p (pc1 := 39) rfl rfl ?_
    refine w_p (pc1 := 40) rfl rfl ?_
    refine w_m0 (pc1 := 43) rfl rfl (h_gI rfl rfl rfl rfl rfl) rfl ?_
    refine w_p (pc1 := 44) (st1 := .int 1 :: _) rfl rfl ?_
    refine w_p (pc1 := 45) rfl rfl ?_
    refine w_m0 (pc1 := 48) rfl rfl (h_pI rfl rfl rfl rfl rfl rfl rfl ⟨rfl, rfl⟩ rfl) rfl ?_
    refine w_p (pc1 := 51) (al1 := [(4, _), (0, .ref 101), (1, _), (3, _)]) rfl rfl ?_
    refine w_p (pc1 := 5) rfl rfl ?_
    rw [nK_p]
    refine lp_164 m (l + 1) _ ?_ (by omega)
    show (sI (sI C 2 _ _) 1 4 _).1 1 4 = _
    rw [sI_1, if_pos ⟨rfl, rfl⟩]
    show C.1 1 4 + 1 = _
    rw [hl, nK_1]
set_option maxRecDepth 100000 in
theorem m_164 {b : Int64} {m l : Nat} (hl : C.1 1 4 = nI l) (h6 : l + m ≤ 600) : Wd L xs d y_164 (0, [(0, .ref 101), (1, .long b), (3, .int (nI m))], [], MH C t, sl) (Rt none (MH (apK C b m) t) sl) nX := by
  refine w_p (pc1 := 1) rfl rfl ?_
  refine w_p (pc1 := 2) (st1 := .int 1 :: _) rfl rfl ?_
  refine w_p (pc1 := 3) rfl rfl ?_
  refine w_p (pc1 := 5) (al1 := [(4, _), (0, .ref 101), (1, _), (3, _)]) rfl rfl ?_
  exact lp_164 m l C hl h6
set_option maxRecDepth 100000 in
theorem apK_len {b : Int64} : ∀ (m : Nat) (C : co_T) (l : Nat), C.1 1 4 = nI l → (apK C b m).1 1 4 = nI (l + m)
  | 0, C, l, h => h
  | m + 1, C, l, h => by
    rw [apK, apK_len m _ (l + 1) (by rw [sI_1, if_pos ⟨rfl, rfl⟩, h, nK_1]), Nat.add_assoc, Nat.add_comm 1 m]
set_option maxRecDepth 100000 in
theorem apK_o {b : Int64} : ∀ (m : Nat) (C : co_T) (k : Nat), k ≠ 1 → k ≠ 2 → (apK C b m).1 k = C.1 k
  | 0, _, _, _, _ => rfl
  | m + 1, C, k, h1, h2 => by rw [apK, apK_o m _ k h1 h2, sI_o h1, sI_o h2]
set_option maxRecDepth 100000 in
theorem apK_2 {b : Int64} : ∀ (m : Nat) (C : co_T), (apK C b m).2 = C.2
  | 0, _ => rfl
  | m + 1, C => by rw [apK, apK_2 m _]; rfl
set_option maxRecDepth 100000 in
theorem apM_len {b : Int64} : ∀ (m : Nat) (C : co_T) (l : Nat), C.1 76 2 = nI l → (apM C b m).1 76 2 = nI (l + m)
  | 0, C, l, h => h
  | m + 1, C, l, h => by
    rw [apM, apM_len m _ (l + 1) (by rw [sI_1, if_pos ⟨rfl, rfl⟩, h, nK_1]), Nat.add_assoc, Nat.add_comm 1 m]
set_option maxRecDepth 100000 in
theorem apM_2 {b : Int64} : ∀ (m : Nat) (C : co_T), (apM C b m).2 = C.2
  | 0, _ => rfl
  | m + 1, C => by rw [apM, apM_2 m _]; rfl
set_option maxRecDepth 100000 in
theorem apM_0 {b : Int64} : ∀ (m : Nat) (C : co_T), (apM C b m).1 76 0 = C.1 76 0
  | 0, _ => rfl
  | m + 1, C => by rw [apM, apM_0 m _, sI_1, if_neg (by omega), sI_1, if_neg (by omega)]
set_option maxRecDepth 100000 in
theorem m_163i {b : Int64} {m l : Nat} (hl : C.1 1 4 = nI l) (h1 : 1 ≤ m) (h8 : m ≤ 8) (h6 : l + m ≤ 600) : Wd L xs (d + 1) y_163 (0, [(0, .ref 100), (1, .long b), (3, .int (nI m))], [], MH C t, sl) (Rt (some (.int (nI (l + m)))) (MH (apK C b m) t) sl) nX := by
  refine w_p (pc1 := 1) rfl rfl ?_
  refine w_p (pc1 := 2) (st1 := .int 1 :: _) rfl rfl ?_
  refine w_f (a := 11) (b := 5) (cb_lt_f (by rw [nK_int (by omega)]; show (1 : Int) ≤ _; omega)) rfl rfl ?_
  refine w_p (pc1 := 6) rfl rfl ?_
  refine w_p (pc1 := 8) (st1 := .int 8 :: _) rfl rfl ?_
  refine w_t (a := 21) (b := 11) (cb_le_t (by rw [nK_int (by omega)]; show _ ≤ (8 : Int); omega)) rfl rfl ?_
  refine w_p (pc1 := 22) rfl rfl ?_
  refine w_m0 (pc1 := 25) rfl rfl (h_gC rfl rfl rfl rfl) rfl ?_
  refine w_m0 (pc1 := 28) rfl rfl (h_gI rfl rfl rfl rfl rfl) rfl ?_
  refine w_p (pc1 := 29) rfl rfl ?_
  refine w_p (pc1 := 30) rfl rfl ?_
  refine w_p (pc1 := 33) (st1 := .int 600 :: _) rfl rfl ?_
  refine w_t (a := 46) (b := 36) (cb_le_t (by rw [hl, add_int (by rw [nK_int (by omega), nK_int (by omega)]; omega) (by rw [nK_int (by omega), nK_int (by omega)]; omega), nK_int (by omega), nK_int (by omega)]; show _ ≤ (600 : Int); omega)) rfl rfl ?_
  refine w_p (pc1 := 47) rfl rfl ?_
  refine w_m0 (pc1 := 50) rfl rfl (h_gC rfl rfl rfl rfl) rfl ?_
  refine w_p (pc1 := 51) rfl rfl ?_
  refine w_p (pc1 := 52) rfl rfl ?_
  refine w_je (pc1 := 55) (vs := [.ref 101, _, _]) (rest := []) (st1 := []) (m_164 (d := _) (sl := 0) hl h6) rfl rfl rfl (fun _ _ => rfl) rfl (by exact cl_v my_164 rfl rfl rfl (Nat.le_of_ble_eq_true rfl) rfl (MH_obj rfl rfl) rfl (by decide) rfl rfl) (by rfl) (Nat.le_of_ble_eq_true rfl) (Nat.le_of_ble_eq_true rfl) rfl (by rfl) ?_
  refine w_p (pc1 := 56) rfl rfl ?_
  refine w_m0 (pc1 := 59) rfl rfl (h_gC rfl rfl rfl rfl) rfl ?_
  refine w_m0 (pc1 := 62) rfl rfl (h_gI rfl rfl rfl rfl rfl) rfl ?_
  refine w_r rfl rfl rfl (fun _ _ => rfl) cr_int ?_
  exact ⟨by rw [apK_len m C l hl], rfl, rfl⟩
set_option maxRecDepth 100000 in
theorem m_163a {b : Int64} {x : Int32} (hx : ¬ (1 ≤ x.toInt ∧ x.toInt ≤ 8)) : Wd L xs (d + 6) y_163 (0, [(0, .ref 100), (1, .long b), (3, .int x)], [], MH C t, sl) nP (Xk 13 C t sl) := by
  refine w_p (pc1 := 1) rfl rfl ?_
  refine w_p (pc1 := 2) (st1 := .int 1 :: _) rfl rfl ?_
  refine w_b (a := 11) (b := 5) rfl rfl (fun c2 => ?_) (fun c2 => ?_)
  · replace c2 := ck_lt_t (n := 1) rfl c2
    refine w_x (ci := 13) rfl rfl rfl (fun _ _ => rfl) rfl rfl (fun fr lo h1 h2 => cx_ok h1 h2 rfl) (by exact ch_thr (by decide) rfl) ?_
    exact Xk_i
  · replace c2 := ck_lt_f (n := 1) rfl c2
    refine w_p (pc1 := 6) rfl rfl ?_
    refine w_p (pc1 := 8) (st1 := .int 8 :: _) rfl rfl ?_
    refine w_b (a := 21) (b := 11) rfl rfl (fun c8 => ?_) (fun c8 => ?_)
    · replace c8 := ck_le_t (n := 8) rfl c8
      exfalso; omega
    · replace c8 := ck_le_f (n := 8) rfl c8
      refine w_x (ci := 13) rfl rfl rfl (fun _ _ => rfl) rfl rfl (fun fr lo h1 h2 => cx_ok h1 h2 rfl) (by exact ch_thr (by decide) rfl) ?_
      exact Xk_i
set_option maxRecDepth 100000 in
theorem m_163s {b : Int64} {m l : Nat} (hl : C.1 1 4 = nI l) (hq : l ≤ 600) (h1 : 1 ≤ m) (h8 : m ≤ 8) (h6 : ¬ l + m ≤ 600) : Wd L xs (d + 6) y_163 (0, [(0, .ref 100), (1, .long b), (3, .int (nI m))], [], MH C t, sl) nP (Xk 12 C t sl) := by
  refine w_p (pc1 := 1) rfl rfl ?_
  refine w_p (pc1 := 2) (st1 := .int 1 :: _) rfl rfl ?_
  refine w_f (a := 11) (b := 5) (cb_lt_f (by rw [nK_int (by omega)]; show (1 : Int) ≤ _; omega)) rfl rfl ?_
  refine w_p (pc1 := 6) rfl rfl ?_
  refine w_p (pc1 := 8) (st1 := .int 8 :: _) rfl rfl ?_
  refine w_t (a := 21) (b := 11) (cb_le_t (by rw [nK_int (by omega)]; show _ ≤ (8 : Int); omega)) rfl rfl ?_
  refine w_p (pc1 := 22) rfl rfl ?_
  refine w_m0 (pc1 := 25) rfl rfl (h_gC rfl rfl rfl rfl) rfl ?_
  refine w_m0 (pc1 := 28) rfl rfl (h_gI rfl rfl rfl rfl rfl) rfl ?_
  refine w_p (pc1 := 29) rfl rfl ?_
  refine w_p (pc1 := 30) rfl rfl ?_
  refine w_p (pc1 := 33) (st1 := .int 600 :: _) rfl rfl ?_
  refine w_f (a := 46) (b := 36) (cb_le_f (by rw [hl, add_int (by rw [nK_int (by omega), nK_int (by omega)]; omega) (by rw [nK_int (by omega), nK_int (by omega)]; omega), nK_int (by omega), nK_int (by omega)]; show (600 : Int) < _; omega)) rfl rfl ?_
  refine w_x (ci := 12) rfl rfl rfl (fun _ _ => rfl) rfl rfl (fun fr lo h1 h2 => cx_ok h1 h2 rfl) (by exact ch_thr (by decide) rfl) ?_
  exact Xk_i
set_option maxRecDepth 100000 in
theorem m_162i {b : Int64} {m l : Nat} (hl : C.1 1 4 = nI l) (h1 : 1 ≤ m) (h8 : m ≤ 8) (h6 : l + m ≤ 600) : Wd L xs (d + 2) y_162 (0, [(0, .ref 100), (1, .long b), (3, .int (nI m)), (4, .ref 240)], [], MH C t, sl) (Rt (some (.int 0)) (MH (sJ (apK C b m) 140 0 (nI (l + m)).toInt64) t) sl) nX := by
  refine w_p (pc1 := 2) rfl rfl ?_
  refine w_p (pc1 := 3) (st1 := .int 0 :: _) rfl rfl ?_
  refine w_p (pc1 := 4) rfl rfl ?_
  refine w_p (pc1 := 5) rfl rfl ?_
  refine w_p (pc1 := 6) rfl rfl ?_
  refine w_je (pc1 := 9) (vs := [.ref 100, _, _]) (rest := [.int 0, .ref 240]) (st1 := [_, .int 0, .ref 240]) (m_163i (d := _) (sl := 0) hl h1 h8 h6) rfl rfl rfl (fun _ _ => rfl) rfl (by exact cl_v my_163 rfl rfl rfl (Nat.le_of_ble_eq_true rfl) rfl (MH_obj rfl rfl) rfl (by decide) rfl rfl) (by rfl) (Nat.le_of_ble_eq_true rfl) (Nat.le_of_ble_eq_true rfl) rfl (by rfl) ?_
  refine w_p (pc1 := 10) rfl rfl ?_
  refine w_m0 (pc1 := 11) rfl rfl (h_ls rfl rfl rfl) rfl ?_
  refine w_p (pc1 := 22) rfl rfl ?_
  refine w_p (pc1 := 23) (st1 := .int 0 :: _) rfl rfl ?_
  refine w_r rfl rfl rfl (fun _ _ => rfl) cr_int ?_
  exact ⟨rfl, rfl, rfl⟩
set_option maxRecDepth 100000 in
theorem m_162a {b : Int64} {x : Int32} (hx : ¬ (1 ≤ x.toInt ∧ x.toInt ≤ 8)) : Wd L xs (d + 7) y_162 (0, [(0, .ref 100), (1, .long b), (3, .int x), (4, .ref 240)], [], MH C t, sl) (Rt (some (.int 1)) (MH C (t ++ [.inr (13, [])])) (sl + 6)) nX := by
  refine w_p (pc1 := 2) rfl rfl ?_
  refine w_p (pc1 := 3) (st1 := .int 0 :: _) rfl rfl ?_
  refine w_p (pc1 := 4) rfl rfl ?_
  refine w_p (pc1 := 5) rfl rfl ?_
  refine w_p (pc1 := 6) rfl rfl ?_
  refine w_ji (pc1 := 9) (vs := [.ref 100, _, _]) (rest := [.int 0, .ref 240]) (m_163a (d := _) (sl := 0) hx) rfl rfl rfl (fun _ _ => rfl) rfl (by exact cl_v my_163 rfl rfl rfl (Nat.le_of_ble_eq_true rfl) rfl (MH_obj rfl rfl) rfl (by decide) rfl rfl) (by rfl) (Nat.le_of_ble_eq_true rfl) (Nat.le_of_ble_eq_true rfl) rfl (fun v h1 d1 hq => ?_) (fun a h1 d1 hq => ?_)
  · exact hq.elim
  · rcases hq with ⟨ha, hh, hn⟩
    · subst ha; subst hh; subst hn
      refine Or.inr ⟨14, ch_new (by decide) rfl, ?_⟩
      refine w_p (pc1 := 16) (al1 := [(5, _), (0, .ref 100), (1, _), (3, _), (4, .ref 240)]) rfl rfl ?_
      refine w_p (pc1 := 17) (st1 := .int 1 :: _) rfl rfl ?_
      refine w_r rfl rfl rfl (fun _ _ => rfl) cr_int ?_
      exact ⟨rfl, rfl, rfl⟩
set_option maxRecDepth 100000 in
theorem m_162s {b : Int64} {m l : Nat} (hl : C.1 1 4 = nI l) (hq : l ≤ 600) (h1 : 1 ≤ m) (h8 : m ≤ 8) (h6 : ¬ l + m ≤ 600) : Wd L xs (d + 7) y_162 (0, [(0, .ref 100), (1, .long b), (3, .int (nI m)), (4, .ref 240)], [], MH C t, sl) (Rt (some (.int 2)) (MH C (t ++ [.inr (12, [])])) (sl + 6)) nX := by
  refine w_p (pc1 := 2) rfl rfl ?_
  refine w_p (pc1 := 3) (st1 := .int 0 :: _) rfl rfl ?_
  refine w_p (pc1 := 4) rfl rfl ?_
  refine w_p (pc1 := 5) rfl rfl ?_
  refine w_p (pc1 := 6) rfl rfl ?_
  refine w_ji (pc1 := 9) (vs := [.ref 100, _, _]) (rest := [.int 0, .ref 240]) (m_163s (d := _) (sl := 0) hl hq h1 h8 h6) rfl rfl rfl (fun _ _ => rfl) rfl (by exact cl_v my_163 rfl rfl rfl (Nat.le_of_ble_eq_true rfl) rfl (MH_obj rfl rfl) rfl (by decide) rfl rfl) (by rfl) (Nat.le_of_ble_eq_true rfl) (Nat.le_of_ble_eq_true rfl) rfl (fun v h1 d1 hq => ?_) (fun a h1 d1 hq => ?_)
  · exact hq.elim
  · rcases hq with ⟨ha, hh, hn⟩
    · subst ha; subst hh; subst hn
      refine Or.inr ⟨18, ch_new (by decide) rfl, ?_⟩
      refine w_p (pc1 := 20) (al1 := [(5, _), (0, .ref 100), (1, _), (3, _), (4, .ref 240)]) rfl rfl ?_
      refine w_p (pc1 := 21) (st1 := .int 2 :: _) rfl rfl ?_
      refine w_r rfl rfl rfl (fun _ _ => rfl) cr_int ?_
      exact ⟨rfl, rfl, rfl⟩
set_option maxRecDepth 100000 in
theorem lp_188 {b : Int64} {n : Int32} : ∀ (m l : Nat) (C : co_T), C.1 76 2 = nI l → l + m ≤ 600 → Wd L xs d y_188 (40, [(4, .int (nI m - 1)), (0, .ref 176), (1, .long b), (3, .int n)], [], MH C t, sl) (Rt (some (.int (nI (l + m)))) (MH (apM C b m) t) sl) nX
  | 0, l, C, hl, h6 => by
    refine w_p (pc1 := 42) rfl rfl ?_
    refine w_t (a := 82) (b := 45) (cb_lt_t (by decide)) rfl rfl ?_
    refine w_p (pc1 := 83) rfl rfl ?_
    refine w_m0 (pc1 := 86) rfl rfl (h_gI rfl rfl rfl rfl rfl) rfl ?_
    refine w_r rfl rfl rfl (fun _ _ => rfl) cr_int ?_
    exact ⟨by rw [hl]; rfl, rfl, rfl⟩
  | m + 1, l, C, hl, h6 => by
    rw [nK_s]
    refine w_p (pc1 := 42) rfl rfl ?_
    refine w_f (a := 82) (b := 45) (cb_lt_f (by rw [nK_int (by omega)]; show (0 : Int) ≤ _; omega)) rfl rfl ?_
    refine w_p (pc1 := 46) rfl rfl ?_
    refine w_m0 (pc1 := 49) rfl rfl (h_gC rfl rfl rfl rfl) rfl ?_
    refine w_p (pc1 := 50) rfl rfl ?_
    refine w_m0 (pc1 := 53) rfl rfl (h_gI rfl rfl rfl rfl rfl) rfl ?_
    refine w_p (pc1 := 54) rfl rfl ?_
    refine w_p (pc1 := 56) (st1 := .int 8 :: _) rfl rfl ?_
    refine w_p (pc1 := 58) rfl rfl ?_
    refine w_p (pc1 := 59) rfl rfl ?_
    refine w_p (pc1 := 60) rfl rfl ?_
    refine w_m0 (pc1 := 63) (st1 := .long 255 :: _) rfl rfl rfl rfl ?_
    refine w_p (pc1 := 64) rfl rfl ?_
    refine w_p (pc1 := 65) rfl rfl ?_
    refine w_m0 (pc1 := 66) rfl rfl (h_is rfl rfl (by rw [hl]; exact in_ok (by rw [nK_int (by omega)]; omega) (by rw [nK_int (by omega)]; omega))) rfl ?_
    refine w_p (pc1 := 67) rfl rfl ?_
    refine w_p (pc1 := 68) rfl rfl ?_
    refine w_m0 (pc1 := 71) rfl rfl (h_gI rfl rfl rfl rfl rfl) rfl ?_
    refine w_p (pc1 := 72) (st1 := .int 1 :: _) rfl rfl ?_
    refine w_p (pc1 := 73) rfl rfl ?_
    refine w_m0 (pc1 := 76) rfl rfl (h_pI rfl rfl rfl rfl rfl rfl rfl ⟨rfl, rfl⟩ rfl) rfl ?_
    refine w_p (pc1 := 79) (al1 := [(4, _), (0, .ref 176), (1, _), (3, _)]) rfl rfl ?_
    refine w_p (pc1 := 40) rfl rfl ?_
    rw [nK_p, show l + (m + 1) = l + 1 + m by omega]
    refine lp_188 m (l + 1) _ ?_ (by omega)
    show (sI (sI C 77 _ _) 76 2 _).1 76 2 = _
    rw [sI_1, if_pos ⟨rfl, rfl⟩]
    show C.1 76 2 + 1 = _
    rw [hl, nK_1]
set_option maxRecDepth 100000 in
theorem m_188i {b : Int64} {m l : Nat} (hl : C.1 76 2 = nI l) (h1 : 1 ≤ m) (h8 : m ≤ 8) (h6 : l + m ≤ 600) : Wd L xs (d + 1) y_188 (0, [(0, .ref 176), (1, .long b), (3, .int (nI m))], [], MH C t, sl) (Rt (some (.int (nI (l + m)))) (MH (apM (sI C 76 0 0) b m) t) sl) nX := by
  refine w_p (pc1 := 1) rfl rfl ?_
  refine w_p (pc1 := 2) rfl rfl ?_
  refine w_p (pc1 := 3) rfl rfl ?_
  refine w_p (pc1 := 4) (st1 := .long 1 :: _) rfl rfl ?_
  refine w_m0 (pc1 := 7) (st1 := .long 8 :: _) rfl rfl rfl rfl ?_
  refine w_je (pc1 := 10) (vs := [_, .long 1, .long 8]) (rest := [.ref 176]) (st1 := [.int 1, .ref 176]) (m_189t (d := _) (sl := 0) (isIn_t (x := nI m) (m := 1) (n := 8) rfl rfl (by rw [nK_int (by omega)]; omega) (by rw [nK_int (by omega)]; omega))) rfl rfl rfl (fun _ _ => rfl) rfl (by exact cl_s my_189 rfl rfl rfl (Nat.le_of_ble_eq_true rfl) rfl rfl) (by rfl) (Nat.le_of_ble_eq_true rfl) (Nat.le_of_ble_eq_true rfl) rfl (by rfl) ?_
  refine w_p (pc1 := 11) rfl rfl ?_
  refine w_m0 (pc1 := 14) rfl rfl (h_gI rfl rfl rfl rfl rfl) rfl ?_
  refine w_p (pc1 := 15) rfl rfl ?_
  refine w_p (pc1 := 16) rfl rfl ?_
  refine w_p (pc1 := 19) (st1 := .int 600 :: _) rfl rfl ?_
  refine w_f (a := 26) (b := 22) (cb_gt_f (by rw [hl, add_int (by rw [nK_int (by omega), nK_int (by omega)]; omega) (by rw [nK_int (by omega), nK_int (by omega)]; omega), nK_int (by omega), nK_int (by omega)]; show _ ≤ (600 : Int); omega)) rfl rfl ?_
  refine w_p (pc1 := 23) (st1 := .int 1 :: _) rfl rfl ?_
  refine w_p (pc1 := 27) rfl rfl ?_
  refine w_je (pc1 := 30) (vs := [.ref 176, .int 1, .int 1]) (rest := []) (st1 := [.int 1]) (m_190 (d := _) (sl := 0)) rfl rfl rfl (fun _ _ => rfl) rfl (by exact cl_v my_190 rfl rfl rfl (Nat.le_of_ble_eq_true rfl) rfl (MH_obj rfl rfl) rfl (by decide) rfl rfl) (by rfl) (Nat.le_of_ble_eq_true rfl) (Nat.le_of_ble_eq_true rfl) rfl (by rfl) ?_
  refine w_t (a := 35) (b := 33) rfl rfl rfl ?_
  refine w_p (pc1 := 36) rfl rfl ?_
  refine w_p (pc1 := 37) (st1 := .int 1 :: _) rfl rfl ?_
  refine w_p (pc1 := 38) rfl rfl ?_
  refine w_p (pc1 := 40) (al1 := [(4, _), (0, .ref 176), (1, _), (3, _)]) rfl rfl ?_
  exact lp_188 m l _ (by rw [sI_1, if_neg (by omega)]; exact hl) h6
set_option maxRecDepth 100000 in
theorem m_188a {b : Int64} {x : Int32} (hx : ¬ (1 ≤ x.toInt ∧ x.toInt ≤ 8)) : Wd L xs (d + 1) y_188 (0, [(0, .ref 176), (1, .long b), (3, .int x)], [], MH C t, sl) (Rt (some (.int 0)) (MH (sI C 76 0 1) t) sl) nX := by
  refine w_p (pc1 := 1) rfl rfl ?_
  refine w_p (pc1 := 2) rfl rfl ?_
  refine w_p (pc1 := 3) rfl rfl ?_
  refine w_p (pc1 := 4) (st1 := .long 1 :: _) rfl rfl ?_
  refine w_m0 (pc1 := 7) (st1 := .long 8 :: _) rfl rfl rfl rfl ?_
  refine w_je (pc1 := 10) (vs := [_, .long 1, .long 8]) (rest := [.ref 176]) (st1 := [.int 0, .ref 176]) (m_189f (d := _) (sl := 0) (isIn_f (x := x) (m := 1) (n := 8) rfl rfl hx)) rfl rfl rfl (fun _ _ => rfl) rfl (by exact cl_s my_189 rfl rfl rfl (Nat.le_of_ble_eq_true rfl) rfl rfl) (by rfl) (Nat.le_of_ble_eq_true rfl) (Nat.le_of_ble_eq_true rfl) rfl (by rfl) ?_
  refine w_p (pc1 := 11) rfl rfl ?_
  refine w_m0 (pc1 := 14) rfl rfl (h_gI rfl rfl rfl rfl rfl) rfl ?_
  refine w_p (pc1 := 15) rfl rfl ?_
  refine w_p (pc1 := 16) rfl rfl ?_
  refine w_p (pc1 := 19) (st1 := .int 600 :: _) rfl rfl ?_
  refine w_b (a := 26) (b := 22) rfl rfl (fun c19 => ?_) (fun c19 => ?_)
  · replace c19 := ck_gt_t (n := 600) rfl c19
    refine w_p (pc1 := 27) (st1 := .int 0 :: _) rfl rfl ?_
    refine w_je (pc1 := 30) (vs := [.ref 176, .int 0, .int 0]) (rest := []) (st1 := [.int 0]) (m_190 (d := _) (sl := 0)) rfl rfl rfl (fun _ _ => rfl) rfl (by exact cl_v my_190 rfl rfl rfl (Nat.le_of_ble_eq_true rfl) rfl (MH_obj rfl rfl) rfl (by decide) rfl rfl) (by rfl) (Nat.le_of_ble_eq_true rfl) (Nat.le_of_ble_eq_true rfl) rfl (by rfl) ?_
    refine w_f (a := 35) (b := 33) rfl rfl rfl ?_
    refine w_p (pc1 := 34) (st1 := .int 0 :: _) rfl rfl ?_
    refine w_r rfl rfl rfl (fun _ _ => rfl) cr_int ?_
    exact ⟨rfl, rfl, rfl⟩
  · replace c19 := ck_gt_f (n := 600) rfl c19
    refine w_p (pc1 := 23) (st1 := .int 1 :: _) rfl rfl ?_
    refine w_p (pc1 := 27) rfl rfl ?_
    refine w_je (pc1 := 30) (vs := [.ref 176, .int 0, .int 1]) (rest := []) (st1 := [.int 0]) (m_190 (d := _) (sl := 0)) rfl rfl rfl (fun _ _ => rfl) rfl (by exact cl_v my_190 rfl rfl rfl (Nat.le_of_ble_eq_true rfl) rfl (MH_obj rfl rfl) rfl (by decide) rfl rfl) (by rfl) (Nat.le_of_ble_eq_true rfl) (Nat.le_of_ble_eq_true rfl) rfl (by rfl) ?_
    refine w_f (a := 35) (b := 33) rfl rfl rfl ?_
    refine w_p (pc1 := 34) (st1 := .int 0 :: _) rfl rfl ?_
    refine w_r rfl rfl rfl (fun _ _ => rfl) cr_int ?_
    exact ⟨rfl, rfl, rfl⟩
set_option maxRecDepth 100000 in
theorem m_188s {b : Int64} {m l : Nat} (hl : C.1 76 2 = nI l) (hq : l ≤ 600) (h1 : 1 ≤ m) (h8 : m ≤ 8) (h6 : ¬ l + m ≤ 600) : Wd L xs (d + 1) y_188 (0, [(0, .ref 176), (1, .long b), (3, .int (nI m))], [], MH C t, sl) (Rt (some (.int 0)) (MH (sI C 76 0 2) t) sl) nX := by
  refine w_p (pc1 := 1) rfl rfl ?_
  refine w_p (pc1 := 2) rfl rfl ?_
  refine w_p (pc1 := 3) rfl rfl ?_
  refine w_p (pc1 := 4) (st1 := .long 1 :: _) rfl rfl ?_
  refine w_m0 (pc1 := 7) (st1 := .long 8 :: _) rfl rfl rfl rfl ?_
  refine w_je (pc1 := 10) (vs := [_, .long 1, .long 8]) (rest := [.ref 176]) (st1 := [.int 1, .ref 176]) (m_189t (d := _) (sl := 0) (isIn_t (x := nI m) (m := 1) (n := 8) rfl rfl (by rw [nK_int (by omega)]; omega) (by rw [nK_int (by omega)]; omega))) rfl rfl rfl (fun _ _ => rfl) rfl (by exact cl_s my_189 rfl rfl rfl (Nat.le_of_ble_eq_true rfl) rfl rfl) (by rfl) (Nat.le_of_ble_eq_true rfl) (Nat.le_of_ble_eq_true rfl) rfl (by rfl) ?_
  refine w_p (pc1 := 11) rfl rfl ?_
  refine w_m0 (pc1 := 14) rfl rfl (h_gI rfl rfl rfl rfl rfl) rfl ?_
  refine w_p (pc1 := 15) rfl rfl ?_
  refine w_p (pc1 := 16) rfl rfl ?_
  refine w_p (pc1 := 19) (st1 := .int 600 :: _) rfl rfl ?_
  refine w_t (a := 26) (b := 22) (cb_gt_t (by rw [hl, add_int (by rw [nK_int (by omega), nK_int (by omega)]; omega) (by rw [nK_int (by omega), nK_int (by omega)]; omega), nK_int (by omega), nK_int (by omega)]; show (600 : Int) < _; omega)) rfl rfl ?_
  refine w_p (pc1 := 27) (st1 := .int 0 :: _) rfl rfl ?_
  refine w_je (pc1 := 30) (vs := [.ref 176, .int 1, .int 0]) (rest := []) (st1 := [.int 0]) (m_190 (d := _) (sl := 0)) rfl rfl rfl (fun _ _ => rfl) rfl (by exact cl_v my_190 rfl rfl rfl (Nat.le_of_ble_eq_true rfl) rfl (MH_obj rfl rfl) rfl (by decide) rfl rfl) (by rfl) (Nat.le_of_ble_eq_true rfl) (Nat.le_of_ble_eq_true rfl) rfl (by rfl) ?_
  refine w_f (a := 35) (b := 33) rfl rfl rfl ?_
  refine w_p (pc1 := 34) (st1 := .int 0 :: _) rfl rfl ?_
  refine w_r rfl rfl rfl (fun _ _ => rfl) cr_int ?_
  exact ⟨rfl, rfl, rfl⟩
end FED
