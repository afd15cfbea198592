/-! THE ANSWERS THAT CHANGE NOTHING: told -/
section OBS
variable {L : Nat} {xs : Nat → Int32} {C : co_T} {t : ab_H} {d sl : Nat}
set_option maxRecDepth 100000 in
theorem i8 {x : Int32} (h0 : 0 ≤ x.toInt) (h1 : x.toInt < 8) : x = 0 ∨ x = 1 ∨ x = 2 ∨ x = 3 ∨ x = 4 ∨ x = 5 ∨ x = 6 ∨ x = 7 := by
  simp [← Int32.toInt_inj]
  omega
set_option maxRecDepth 100000 in
theorem m_187 : Wd L xs d y_187 (0, [(0, .ref 176)], [], MH C t, sl) (Rt (some (.int (C.1 76 0))) (MH C t) sl) nX := by
  refine w_p (pc1 := 1) rfl rfl ?_
  refine w_m0 (pc1 := 4) rfl rfl (h_gI rfl rfl rfl rfl rfl) rfl ?_
  refine w_r rfl rfl rfl (fun _ _ => rfl) cr_int ?_
  exact ⟨rfl, rfl, rfl⟩
def isIn (v a b : Int64) : Bool := decide (a.toInt ≤ v.toInt) && decide (v.toInt ≤ b.toInt)
set_option maxRecDepth 100000 in
theorem m_189 {v a b : Int64} : Wd L xs d y_189 (0, [(0, .long v), (2, .long a), (4, .long b)], [], MH C t, sl) (Rt (some (.int (if isIn v a b then 1 else 0))) (MH C t) sl) nX := by
  refine w_p (pc1 := 1) rfl rfl ?_
  refine w_p (pc1 := 2) rfl rfl ?_
  refine w_p (pc1 := 3) rfl rfl ?_
  refine w_b (a := 17) (b := 6) rfl rfl (fun c3 => ?_) (fun c3 => ?_)
  · replace c3 := lc_lt_t c3
    refine w_p (pc1 := 18) (st1 := .int 0 :: _) rfl rfl ?_
    refine w_r rfl rfl rfl (fun _ _ => rfl) rfl ?_
    refine ⟨?_, rfl, rfl⟩; simp_all [isIn] <;> omega
  · replace c3 := lc_lt_f c3
    refine w_p (pc1 := 7) rfl rfl ?_
    refine w_p (pc1 := 9) rfl rfl ?_
    refine w_p (pc1 := 10) rfl rfl ?_
    refine w_b (a := 17) (b := 13) rfl rfl (fun c10 => ?_) (fun c10 => ?_)
    · replace c10 := lc_gt_t c10
      refine w_p (pc1 := 18) (st1 := .int 0 :: _) rfl rfl ?_
      refine w_r rfl rfl rfl (fun _ _ => rfl) rfl ?_
      refine ⟨?_, rfl, rfl⟩; simp_all [isIn] <;> omega
    · replace c10 := lc_gt_f c10
      refine w_p (pc1 := 14) (st1 := .int 1 :: _) rfl rfl ?_
      refine w_p (pc1 := 18) rfl rfl ?_
      refine w_r rfl rfl rfl (fun _ _ => rfl) rfl ?_
      refine ⟨?_, rfl, rfl⟩; simp_all [isIn] <;> omega
set_option maxRecDepth 100000 in
theorem m_189t {v a b : Int64} (h : isIn v a b = true) : Wd L xs d y_189 (0, [(0, .long v), (2, .long a), (4, .long b)], [], MH C t, sl) (Rt (some (.int 1)) (MH C t) sl) nX := by
  have z := m_189 (L := L) (xs := xs) (C := C) (t := t) (d := d) (sl := sl) (v := v) (a := a) (b := b)
  rw [h] at z
  exact z
set_option maxRecDepth 100000 in
theorem m_189f {v a b : Int64} (h : isIn v a b = false) : Wd L xs d y_189 (0, [(0, .long v), (2, .long a), (4, .long b)], [], MH C t, sl) (Rt (some (.int 0)) (MH C t) sl) nX := by
  have z := m_189 (L := L) (xs := xs) (C := C) (t := t) (d := d) (sl := sl) (v := v) (a := a) (b := b)
  rw [h] at z
  exact z
set_option maxRecDepth 100000 in
theorem isIn_t {x : Int32} {a b : Int64} {m n : Int} (ha : a.toInt = m) (hb : b.toInt = n) (h0 : m ≤ x.toInt) (h1 : x.toInt ≤ n) : isIn x.toInt64 a b = true := by
  simp [isIn, i64, ha, hb, h0, h1]
set_option maxRecDepth 100000 in
theorem isIn_f {x : Int32} {a b : Int64} {m n : Int} (ha : a.toInt = m) (hb : b.toInt = n) (h : ¬ (m ≤ x.toInt ∧ x.toInt ≤ n)) : isIn x.toInt64 a b = false := by
  simp only [isIn, i64, ha, hb, Bool.and_eq_false_iff, decide_eq_false_iff_not]
  omega
set_option maxRecDepth 100000 in
theorem m_33f {x : Int32} (h : C.2.1 7 x.toNatClampNeg = 0 ∨ ¬ (0 ≤ x.toInt ∧ x.toInt < 6)) : Wd L xs d y_33 (0, [(0, .ref 106), (1, .int x)], [], MH C t, sl) (Rt (some (.int 0)) (MH C t) sl) nX := by
  refine w_p (pc1 := 1) rfl rfl ?_
  refine w_b (a := 25) (b := 4) rfl rfl (fun c1 => ?_) (fun c1 => ?_)
  · replace c1 := ck_lt_t (n := 0) rfl c1
    refine w_p (pc1 := 26) (st1 := .int 0 :: _) rfl rfl ?_
    refine w_r rfl rfl rfl (fun _ _ => rfl) rfl ?_
    exact ⟨rfl, rfl, rfl⟩
  · replace c1 := ck_lt_f (n := 0) rfl c1
    refine w_p (pc1 := 5) rfl rfl ?_
    refine w_p (pc1 := 7) (st1 := .int 6 :: _) rfl rfl ?_
    refine w_b (a := 25) (b := 10) rfl rfl (fun c7 => ?_) (fun c7 => ?_)
    · replace c7 := ck_ge_t (n := 6) rfl c7
      refine w_p (pc1 := 26) (st1 := .int 0 :: _) rfl rfl ?_
      refine w_r rfl rfl rfl (fun _ _ => rfl) rfl ?_
      exact ⟨rfl, rfl, rfl⟩
    · replace c7 := ck_ge_f (n := 6) rfl c7
      refine w_p (pc1 := 11) rfl rfl ?_
      refine w_m0 (pc1 := 14) rfl rfl (h_gC rfl rfl rfl rfl) rfl ?_
      refine w_p (pc1 := 15) rfl rfl ?_
      refine w_m0 (pc1 := 16) rfl rfl (h_ll rfl rfl (by exact in_ok (by omega) (by omega))) rfl ?_
      refine w_p (pc1 := 17) (st1 := .long 0 :: _) rfl rfl ?_
      refine w_p (pc1 := 18) rfl rfl ?_
      refine w_b (a := 25) (b := 21) rfl rfl (fun c18 => ?_) (fun c18 => ?_)
      · replace c18 := lc_eq_t c18
        refine w_p (pc1 := 26) (st1 := .int 0 :: _) rfl rfl ?_
        refine w_r rfl rfl rfl (fun _ _ => rfl) rfl ?_
        exact ⟨rfl, rfl, rfl⟩
      · replace c18 := lc_eq_f c18
        rcases h with h | h
        · exact absurd h c18
        · exfalso; omega
def may (p q : Int32) : Int32 := if p = 0 then 1 else if q = 0 then 2 else 0
set_option maxRecDepth 100000 in
theorem m_190 {p q : Int32} : Wd L xs d y_190 (0, [(0, .ref 176), (1, .int p), (2, .int q)], [], MH C t, sl) (Rt (some (.int (if may p q = 0 then 1 else 0))) (MH (sI C 76 0 (may p q)) t) sl) nX := by
  refine w_p (pc1 := 1) rfl rfl ?_
  refine w_p (pc1 := 2) rfl rfl ?_
  refine w_b (a := 9) (b := 5) rfl rfl (fun c2 => ?_) (fun c2 => ?_)
  · replace c2 := cc_ne_t c2
    refine w_p (pc1 := 10) rfl rfl ?_
    refine w_b (a := 17) (b := 13) rfl rfl (fun c10 => ?_) (fun c10 => ?_)
    · replace c10 := cc_ne_t c10
      refine w_p (pc1 := 18) (st1 := .int 0 :: _) rfl rfl ?_
      refine w_m0 (pc1 := 21) rfl rfl (h_pI rfl rfl rfl rfl rfl rfl rfl ⟨rfl, rfl⟩ rfl) rfl ?_
      refine w_p (pc1 := 22) rfl rfl ?_
      refine w_m0 (pc1 := 25) rfl rfl (h_gI rfl rfl rfl rfl rfl) rfl ?_
      skip
      refine w_b (a := 32) (b := 28) rfl rfl (fun c25 => ?_) (fun c25 => ?_)
      · replace c25 := cc_ne_t c25
        refine w_p (pc1 := 33) (st1 := .int 0 :: _) rfl rfl ?_
        refine w_r rfl rfl rfl (fun _ _ => rfl) rfl ?_
        simp_all [may, sI_1, Rt]
      · replace c25 := cc_ne_f c25
        refine w_p (pc1 := 29) (st1 := .int 1 :: _) rfl rfl ?_
        refine w_p (pc1 := 33) rfl rfl ?_
        refine w_r rfl rfl rfl (fun _ _ => rfl) rfl ?_
        simp_all [may, sI_1, Rt]
    · replace c10 := cc_ne_f c10
      refine w_p (pc1 := 14) (st1 := .int 2 :: _) rfl rfl ?_
      refine w_p (pc1 := 18) rfl rfl ?_
      refine w_m0 (pc1 := 21) rfl rfl (h_pI rfl rfl rfl rfl rfl rfl rfl ⟨rfl, rfl⟩ rfl) rfl ?_
      refine w_p (pc1 := 22) rfl rfl ?_
      refine w_m0 (pc1 := 25) rfl rfl (h_gI rfl rfl rfl rfl rfl) rfl ?_
      skip
      refine w_b (a := 32) (b := 28) rfl rfl (fun c25 => ?_) (fun c25 => ?_)
      · replace c25 := cc_ne_t c25
        refine w_p (pc1 := 33) (st1 := .int 0 :: _) rfl rfl ?_
        refine w_r rfl rfl rfl (fun _ _ => rfl) rfl ?_
        simp_all [may, sI_1, Rt]
      · replace c25 := cc_ne_f c25
        refine w_p (pc1 := 29) (st1 := .int 1 :: _) rfl rfl ?_
        refine w_p (pc1 := 33) rfl rfl ?_
        refine w_r rfl rfl rfl (fun _ _ => rfl) rfl ?_
        simp_all [may, sI_1, Rt]
  · replace c2 := cc_ne_f c2
    refine w_p (pc1 := 6) (st1 := .int 1 :: _) rfl rfl ?_
    refine w_p (pc1 := 18) rfl rfl ?_
    refine w_m0 (pc1 := 21) rfl rfl (h_pI rfl rfl rfl rfl rfl rfl rfl ⟨rfl, rfl⟩ rfl) rfl ?_
    refine w_p (pc1 := 22) rfl rfl ?_
    refine w_m0 (pc1 := 25) rfl rfl (h_gI rfl rfl rfl rfl rfl) rfl ?_
    skip
    refine w_b (a := 32) (b := 28) rfl rfl (fun c25 => ?_) (fun c25 => ?_)
    · replace c25 := cc_ne_t c25
      refine w_p (pc1 := 33) (st1 := .int 0 :: _) rfl rfl ?_
      refine w_r rfl rfl rfl (fun _ _ => rfl) rfl ?_
      simp_all [may, sI_1, Rt]
    · replace c25 := cc_ne_f c25
      refine w_p (pc1 := 29) (st1 := .int 1 :: _) rfl rfl ?_
      refine w_p (pc1 := 33) rfl rfl ?_
      refine w_r rfl rfl rfl (fun _ _ => rfl) rfl ?_
      simp_all [may, sI_1, Rt]
set_option maxRecDepth 100000 in
theorem m_166 {x : Int32} : Wd L xs (d + 6) y_166 (0, [(0, .ref 100), (1, .int x)], [], MH C t, sl) (fun v h n => (0 ≤ x.toInt ∧ x.toInt < 8) ∧ some (.int (C.1 75 x.toNatClampNeg)) = v ∧ MH C t = h ∧ sl = n) (fun a h n => ¬ (0 ≤ x.toInt ∧ x.toInt < 8) ∧ Xk 13 C t sl a h n) := by
  refine w_p (pc1 := 1) rfl rfl ?_
  refine w_b (a := 13) (b := 4) rfl rfl (fun c1 => ?_) (fun c1 => ?_)
  · replace c1 := ck_lt_t (n := 0) rfl c1
    refine w_x (ci := 13) rfl rfl rfl (fun _ _ => rfl) rfl rfl (fun fr lo h1 h2 => cx_ok h1 h2 rfl) (by exact ch_thr (by decide) rfl) ?_
    exact ⟨by omega, Xk_i⟩
  · replace c1 := ck_lt_f (n := 0) rfl c1
    refine w_p (pc1 := 5) rfl rfl ?_
    refine w_p (pc1 := 6) rfl rfl ?_
    refine w_m0 (pc1 := 9) rfl rfl (h_gC rfl rfl rfl rfl) rfl ?_
    refine w_m0 (pc1 := 10) (st1 := .int 8 :: _) rfl rfl (h_lnI rfl rfl (by decide)) rfl ?_
    refine w_b (a := 23) (b := 13) rfl rfl (fun c10 => ?_) (fun c10 => ?_)
    · replace c10 := ck_lt_t (n := 8) rfl c10
      refine w_p (pc1 := 24) rfl rfl ?_
      refine w_m0 (pc1 := 27) rfl rfl (h_gC rfl rfl rfl rfl) rfl ?_
      refine w_p (pc1 := 28) rfl rfl ?_
      refine w_m0 (pc1 := 29) rfl rfl (h_il rfl rfl (by exact in_ok (by omega) (by omega))) rfl ?_
      refine w_r rfl rfl rfl (fun _ _ => rfl) cr_int ?_
      exact ⟨⟨by omega, by omega⟩, rfl, rfl, rfl⟩
    · replace c10 := ck_lt_f (n := 8) rfl c10
      refine w_x (ci := 13) rfl rfl rfl (fun _ _ => rfl) rfl rfl (fun fr lo h1 h2 => cx_ok h1 h2 rfl) (by exact ch_thr (by decide) rfl) ?_
      exact ⟨by omega, Xk_i⟩
set_option maxRecDepth 100000 in
theorem m_165 {x : Int32} : Wd L xs (d + 7) y_165 (0, [(0, .ref 100), (1, .int x), (2, .ref 240)], [], MH C t, sl) (fun v h n => ((0 ≤ x.toInt ∧ x.toInt < 8) ∧ some (.int 0) = v ∧ MH (sJ C 140 0 (C.1 75 x.toNatClampNeg).toInt64) t = h ∧ sl = n) ∨ (¬ (0 ≤ x.toInt ∧ x.toInt < 8) ∧ some (.int 1) = v ∧ MH C (t ++ [.inr (13, [])]) = h ∧ sl + 6 = n)) nX := by
  refine w_p (pc1 := 1) rfl rfl ?_
  refine w_p (pc1 := 2) (st1 := .int 0 :: _) rfl rfl ?_
  refine w_p (pc1 := 3) rfl rfl ?_
  refine w_p (pc1 := 4) rfl rfl ?_
  refine w_ji (pc1 := 7) (vs := [.ref 100, _]) (rest := [.int 0, .ref 240]) (m_166 (d := d) (sl := 0)) rfl rfl rfl (fun _ _ => rfl) rfl (by exact cl_v my_166 rfl rfl rfl (Nat.le_of_ble_eq_true rfl) rfl (MH_obj rfl rfl) rfl (by decide) rfl rfl) (by rfl) (Nat.le_of_ble_eq_true rfl) (Nat.le_of_ble_eq_true rfl) rfl (fun v h1 d1 hq => ?_) (fun a h1 d1 hq => ?_)
  · obtain ⟨hr, hv, hh, hn⟩ := hq
    subst hv; subst hh; subst hn
    refine w_p (pc1 := 8) rfl rfl ?_
    refine w_m0 (pc1 := 9) rfl rfl (h_ls rfl rfl rfl) rfl ?_
    refine w_p (pc1 := 15) rfl rfl ?_
    refine w_p (pc1 := 16) (st1 := .int 0 :: _) rfl rfl ?_
    refine w_r rfl rfl rfl (fun _ _ => rfl) cr_int ?_
    exact Or.inl ⟨hr, rfl, rfl, rfl⟩
  · rcases hq with ⟨hr, ha, hh, hn⟩
    · subst ha; subst hh; subst hn
      refine Or.inr ⟨12, ch_new (by decide) rfl, ?_⟩
      refine w_p (pc1 := 13) (al1 := [(3, _), (0, .ref 100), (1, _), (2, .ref 240)]) rfl rfl ?_
      refine w_p (pc1 := 14) (st1 := .int 1 :: _) rfl rfl ?_
      refine w_r rfl rfl rfl (fun _ _ => rfl) cr_int ?_
      exact Or.inr ⟨hr, rfl, rfl, rfl⟩
def tld (C : co_T) (x : Int32) : Int32 := if x = 0 then (if C.1 76 102 = 1 then C.1 76 8 else -1) else if x = 1 then (if C.1 76 102 = 1 then C.1 76 9 else -1) else if x = 2 then (if C.1 76 102 = 2 then C.1 76 90 else -1) else if x = 3 then (if C.1 76 102 = 2 then C.1 76 91 else -1) else if x = 4 then (if C.1 76 102 = 3 then (C.2.1 76 92).toInt32 else -1) else if x = 5 then C.1 76 93 else if x = 6 then C.1 76 95 else C.1 76 101
set_option maxRecDepth 100000 in
theorem m_287i {x : Int32} (h0 : 0 ≤ x.toInt) (h1 : x.toInt < 8) : Wd L xs (d + 1) y_287 (0, [(0, .ref 176), (1, .int x)], [], MH C t, sl) (Rt (some (.int (tld C x))) (MH (sI C 76 0 0) t) sl) nX := by
  refine w_p (pc1 := 1) rfl rfl ?_
  refine w_p (pc1 := 2) rfl rfl ?_
  refine w_p (pc1 := 3) rfl rfl ?_
  refine w_p (pc1 := 4) (st1 := .long 0 :: _) rfl rfl ?_
  refine w_m0 (pc1 := 7) (st1 := .long 7 :: _) rfl rfl rfl rfl ?_
  refine w_je (pc1 := 10) (vs := [_, .long 0, .long 7]) (rest := [.ref 176]) (st1 := [.int 1, .ref 176]) (m_189t (d := d) (sl := 0) (isIn_t (x := x) (m := 0) (n := 7) rfl rfl (by omega) (by omega))) rfl rfl rfl (fun _ _ => rfl) rfl (by exact cl_s my_189 rfl rfl rfl (Nat.le_of_ble_eq_true rfl) rfl rfl) (by rfl) (Nat.le_of_ble_eq_true rfl) (Nat.le_of_ble_eq_true rfl) rfl (by rfl) ?_
  refine w_p (pc1 := 11) (st1 := .int 1 :: _) rfl rfl ?_
  refine w_je (pc1 := 14) (vs := [.ref 176, .int 1, .int 1]) (rest := []) (st1 := [.int 1]) (m_190 (d := d) (sl := 0)) rfl rfl rfl (fun _ _ => rfl) rfl (by exact cl_v my_190 rfl rfl rfl (Nat.le_of_ble_eq_true rfl) rfl (MH_obj rfl rfl) rfl (by decide) rfl rfl) (by rfl) (Nat.le_of_ble_eq_true rfl) (Nat.le_of_ble_eq_true rfl) rfl (by rfl) ?_
  refine w_t (a := 19) (b := 17) rfl rfl rfl ?_
  rcases i8 (x := x) h0 h1 with rfl | rfl | rfl | rfl | rfl | rfl | rfl | rfl
  · skip
    refine w_p (pc1 := 20) rfl rfl ?_
    refine w_p (pc1 := 64) rfl rfl ?_
    refine w_p (pc1 := 65) rfl rfl ?_
    refine w_m0 (pc1 := 68) rfl rfl (h_gI rfl rfl rfl rfl rfl) rfl ?_
    refine w_p (pc1 := 69) (st1 := .int 1 :: _) rfl rfl ?_
    refine w_b (a := 79) (b := 72) rfl rfl (fun c69 => ?_) (fun c69 => ?_)
    · replace c69 := cc_ne_t c69
      refine w_p (pc1 := 80) (st1 := .int (-1) :: _) rfl rfl ?_
      refine w_r rfl rfl rfl (fun _ _ => rfl) cr_int ?_
      simp_all [tld, sI_1, Rt, may, sI_2]
    · replace c69 := cc_ne_f c69
      refine w_p (pc1 := 73) rfl rfl ?_
      refine w_m0 (pc1 := 76) rfl rfl (h_gI rfl rfl rfl rfl rfl) rfl ?_
      refine w_p (pc1 := 80) rfl rfl ?_
      refine w_r rfl rfl rfl (fun _ _ => rfl) cr_int ?_
      simp_all [tld, sI_1, Rt, may, sI_2]
  · skip
    refine w_p (pc1 := 20) rfl rfl ?_
    refine w_p (pc1 := 81) rfl rfl ?_
    refine w_p (pc1 := 82) rfl rfl ?_
    refine w_m0 (pc1 := 85) rfl rfl (h_gI rfl rfl rfl rfl rfl) rfl ?_
    refine w_p (pc1 := 86) (st1 := .int 1 :: _) rfl rfl ?_
    refine w_b (a := 96) (b := 89) rfl rfl (fun c86 => ?_) (fun c86 => ?_)
    · replace c86 := cc_ne_t c86
      refine w_p (pc1 := 97) (st1 := .int (-1) :: _) rfl rfl ?_
      refine w_r rfl rfl rfl (fun _ _ => rfl) cr_int ?_
      simp_all [tld, sI_1, Rt, may, sI_2]
    · replace c86 := cc_ne_f c86
      refine w_p (pc1 := 90) rfl rfl ?_
      refine w_m0 (pc1 := 93) rfl rfl (h_gI rfl rfl rfl rfl rfl) rfl ?_
      refine w_p (pc1 := 97) rfl rfl ?_
      refine w_r rfl rfl rfl (fun _ _ => rfl) cr_int ?_
      simp_all [tld, sI_1, Rt, may, sI_2]
  · skip
    refine w_p (pc1 := 20) rfl rfl ?_
    refine w_p (pc1 := 98) rfl rfl ?_
    refine w_p (pc1 := 99) rfl rfl ?_
    refine w_m0 (pc1 := 102) rfl rfl (h_gI rfl rfl rfl rfl rfl) rfl ?_
    refine w_p (pc1 := 103) (st1 := .int 2 :: _) rfl rfl ?_
    refine w_b (a := 113) (b := 106) rfl rfl (fun c103 => ?_) (fun c103 => ?_)
    · replace c103 := cc_ne_t c103
      refine w_p (pc1 := 114) (st1 := .int (-1) :: _) rfl rfl ?_
      refine w_r rfl rfl rfl (fun _ _ => rfl) cr_int ?_
      simp_all [tld, sI_1, Rt, may, sI_2]
    · replace c103 := cc_ne_f c103
      refine w_p (pc1 := 107) rfl rfl ?_
      refine w_m0 (pc1 := 110) rfl rfl (h_gI rfl rfl rfl rfl rfl) rfl ?_
      refine w_p (pc1 := 114) rfl rfl ?_
      refine w_r rfl rfl rfl (fun _ _ => rfl) cr_int ?_
      simp_all [tld, sI_1, Rt, may, sI_2]
  · skip
    refine w_p (pc1 := 20) rfl rfl ?_
    refine w_p (pc1 := 115) rfl rfl ?_
    refine w_p (pc1 := 116) rfl rfl ?_
    refine w_m0 (pc1 := 119) rfl rfl (h_gI rfl rfl rfl rfl rfl) rfl ?_
    refine w_p (pc1 := 120) (st1 := .int 2 :: _) rfl rfl ?_
    refine w_b (a := 130) (b := 123) rfl rfl (fun c120 => ?_) (fun c120 => ?_)
    · replace c120 := cc_ne_t c120
      refine w_p (pc1 := 131) (st1 := .int (-1) :: _) rfl rfl ?_
      refine w_r rfl rfl rfl (fun _ _ => rfl) cr_int ?_
      simp_all [tld, sI_1, Rt, may, sI_2]
    · replace c120 := cc_ne_f c120
      refine w_p (pc1 := 124) rfl rfl ?_
      refine w_m0 (pc1 := 127) rfl rfl (h_gI rfl rfl rfl rfl rfl) rfl ?_
      refine w_p (pc1 := 131) rfl rfl ?_
      refine w_r rfl rfl rfl (fun _ _ => rfl) cr_int ?_
      simp_all [tld, sI_1, Rt, may, sI_2]
  · skip
    refine w_p (pc1 := 20) rfl rfl ?_
    refine w_p (pc1 := 132) rfl rfl ?_
    refine w_p (pc1 := 133) rfl rfl ?_
    refine w_m0 (pc1 := 136) rfl rfl (h_gI rfl rfl rfl rfl rfl) rfl ?_
    refine w_p (pc1 := 137) (st1 := .int 3 :: _) rfl rfl ?_
    refine w_b (a := 148) (b := 140) rfl rfl (fun c137 => ?_) (fun c137 => ?_)
    · replace c137 := cc_ne_t c137
      refine w_p (pc1 := 149) (st1 := .int (-1) :: _) rfl rfl ?_
      refine w_r rfl rfl rfl (fun _ _ => rfl) cr_int ?_
      simp_all [tld, sI_1, Rt, may, sI_2]
    · replace c137 := cc_ne_f c137
      refine w_p (pc1 := 141) rfl rfl ?_
      refine w_m0 (pc1 := 144) rfl rfl (h_gJ rfl rfl rfl rfl rfl) rfl ?_
      refine w_p (pc1 := 145) rfl rfl ?_
      refine w_p (pc1 := 149) rfl rfl ?_
      refine w_r rfl rfl rfl (fun _ _ => rfl) cr_int ?_
      simp_all [tld, sI_1, Rt, may, sI_2]
  · skip
    refine w_p (pc1 := 20) rfl rfl ?_
    refine w_p (pc1 := 150) rfl rfl ?_
    refine w_p (pc1 := 151) rfl rfl ?_
    refine w_m0 (pc1 := 154) rfl rfl (h_gI rfl rfl rfl rfl rfl) rfl ?_
    refine w_r rfl rfl rfl (fun _ _ => rfl) cr_int ?_
    simp_all [tld, sI_1, Rt, may, sI_2]
  · skip
    refine w_p (pc1 := 20) rfl rfl ?_
    refine w_p (pc1 := 155) rfl rfl ?_
    refine w_p (pc1 := 156) rfl rfl ?_
    refine w_m0 (pc1 := 159) rfl rfl (h_gI rfl rfl rfl rfl rfl) rfl ?_
    refine w_r rfl rfl rfl (fun _ _ => rfl) cr_int ?_
    simp_all [tld, sI_1, Rt, may, sI_2]
  · skip
    refine w_p (pc1 := 20) rfl rfl ?_
    refine w_p (pc1 := 160) rfl rfl ?_
    refine w_p (pc1 := 161) rfl rfl ?_
    refine w_m0 (pc1 := 164) rfl rfl (h_gI rfl rfl rfl rfl rfl) rfl ?_
    refine w_r rfl rfl rfl (fun _ _ => rfl) cr_int ?_
    simp_all [tld, sI_1, Rt, may, sI_2]
set_option maxRecDepth 100000 in
theorem m_287o {x : Int32} (h : ¬ (0 ≤ x.toInt ∧ x.toInt < 8)) : Wd L xs (d + 1) y_287 (0, [(0, .ref 176), (1, .int x)], [], MH C t, sl) (Rt (some (.int 0)) (MH (sI C 76 0 1) t) sl) nX := by
  refine w_p (pc1 := 1) rfl rfl ?_
  refine w_p (pc1 := 2) rfl rfl ?_
  refine w_p (pc1 := 3) rfl rfl ?_
  refine w_p (pc1 := 4) (st1 := .long 0 :: _) rfl rfl ?_
  refine w_m0 (pc1 := 7) (st1 := .long 7 :: _) rfl rfl rfl rfl ?_
  refine w_je (pc1 := 10) (vs := [_, .long 0, .long 7]) (rest := [.ref 176]) (st1 := [.int 0, .ref 176]) (m_189f (d := d) (sl := 0) (isIn_f (x := x) (m := 0) (n := 7) rfl rfl (by omega))) rfl rfl rfl (fun _ _ => rfl) rfl (by exact cl_s my_189 rfl rfl rfl (Nat.le_of_ble_eq_true rfl) rfl rfl) (by rfl) (Nat.le_of_ble_eq_true rfl) (Nat.le_of_ble_eq_true rfl) rfl (by rfl) ?_
  refine w_p (pc1 := 11) (st1 := .int 1 :: _) rfl rfl ?_
  refine w_je (pc1 := 14) (vs := [.ref 176, .int 0, .int 1]) (rest := []) (st1 := [.int 0]) (m_190 (d := d) (sl := 0)) rfl rfl rfl (fun _ _ => rfl) rfl (by exact cl_v my_190 rfl rfl rfl (Nat.le_of_ble_eq_true rfl) rfl (MH_obj rfl rfl) rfl (by decide) rfl rfl) (by rfl) (Nat.le_of_ble_eq_true rfl) (Nat.le_of_ble_eq_true rfl) rfl (by rfl) ?_
  refine w_f (a := 19) (b := 17) rfl rfl rfl ?_
  refine w_p (pc1 := 18) (st1 := .int 0 :: _) rfl rfl ?_
  refine w_r rfl rfl rfl (fun _ _ => rfl) cr_int ?_
  exact ⟨rfl, rfl, rfl⟩
end OBS
