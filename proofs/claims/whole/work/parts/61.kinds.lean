/-! THE TAPE'S TOKENS, 2: what they hold, and their kinds -/
section TK2
variable {L : Nat} {xs : Nat → Int32} {C : co_T} {t h : ab_H} {d sl n p e o pc pc0 a b A Bn : Nat} {B : Nat → Nat} {ini : Bool} {q : List Value} {y : mc_T} {al : List (Nat × Value)} {P : Option Value → ab_H → Nat → Prop} {X : Nat → ab_H → Nat → Prop}
/-! the table of the known tokens -/
set_option maxRecDepth 100000 in
theorem h_kn (hi : e < 59) : mo L xs o ini .aaload 1 h (.int (nI e) :: .ref 60 :: q) = some (.ref (1 + e) :: q, h, 0) := by
  show mo_al h (.int (nI e) :: .ref 60 :: q) = _
  unfold mo_al
  simp only
  rw [show mo_arr h 60 = none from rfl]
  simp only
  rw [if_pos ⟨trivial, in_nI hi (by decide)⟩, nK_nat (by omega)]
set_option maxRecDepth 100000 in
theorem h_lt (hi : e < 59) : mo L xs 15 ini (.getfield 210) 3 h (.ref (1 + e) :: q) = some (.long (tk_l.getD e 0) :: q, h, 0) := by
  show mo_gf 15 210 h (.ref (1 + e) :: q) = _
  unfold mo_gf
  simp only
  rw [show mo_fl 15 210 = none from rfl]
  simp only
  have hc : True ∧ True ∧ 1 ≤ 1 + e ∧ 1 + e ≤ 59 := ⟨trivial, trivial, by omega, by omega⟩
  rw [if_pos hc, Nat.add_sub_cancel_left]
/-! two references that are alike or not -/
set_option maxRecDepth 100000 in
theorem w_an {off : Int} (ha : ab_ok a = true) (hb : ab_ok b = true) (hf : y.2.2.find? (fun x => x.1 == pc) = some (pc0, .if_acmp .ne off, 3)) (hj : ab_j pc off = some A) (hB : pc + 3 = Bn) (we : a = b → Wd L xs d y (Bn, al, q, h, sl) P X) (wn : a ≠ b → Wd L xs d y (A, al, q, h, sl) P X) : Wd L xs d y (pc, al, .ref b :: .ref a :: q, h, sl) P X := by
  subst hB
  have e : ab_p y.1.2.2.1 (.if_acmp .ne off) 3 pc al (.ref b :: .ref a :: q) = some (if (decide (a = b) ^^ true) then A else pc + 3, al, q) := by
    show ab_ifa pc al true off (.ref b :: .ref a :: q) = _
    unfold ab_ifa ab_same ab_g1
    simp only [ha, hb, Bool.and_true, if_true, Option.bind_some, hj, Option.map_some]
  by_cases hab : a = b
  · exact w_p hf (by rw [e, decide_eq_true hab]; rfl) (we hab)
  · exact w_p hf (by rw [e, decide_eq_false hab]; rfl) (wn hab)
set_option maxRecDepth 100000 in
theorem w_ae {off : Int} (ha : ab_ok a = true) (hb : ab_ok b = true) (hf : y.2.2.find? (fun x => x.1 == pc) = some (pc0, .if_acmp .eq off, 3)) (hj : ab_j pc off = some A) (hB : pc + 3 = Bn) (we : a = b → Wd L xs d y (A, al, q, h, sl) P X) (wn : a ≠ b → Wd L xs d y (Bn, al, q, h, sl) P X) : Wd L xs d y (pc, al, .ref b :: .ref a :: q, h, sl) P X := by
  subst hB
  have e : ab_p y.1.2.2.1 (.if_acmp .eq off) 3 pc al (.ref b :: .ref a :: q) = some (if (decide (a = b) ^^ false) then A else pc + 3, al, q) := by
    show ab_ifa pc al false off (.ref b :: .ref a :: q) = _
    unfold ab_ifa ab_same ab_g1
    simp only [ha, hb, Bool.and_true, if_true, Option.bind_some, hj, Option.map_some]
  by_cases hab : a = b
  · exact w_p hf (by rw [e, decide_eq_true hab]; rfl) (we hab)
  · exact w_p hf (by rw [e, decide_eq_false hab]; rfl) (wn hab)
set_option maxRecDepth 100000 in
theorem w_ae_y {off : Int} (ha : ab_ok a = true) (hb : ab_ok b = true) (hab : a = b) (hf : y.2.2.find? (fun x => x.1 == pc) = some (pc0, .if_acmp .eq off, 3)) (hj : ab_j pc off = some A) (w : Wd L xs d y (A, al, q, h, sl) P X) : Wd L xs d y (pc, al, .ref b :: .ref a :: q, h, sl) P X := w_ae ha hb hf hj rfl (fun _ => w) (fun z => absurd hab z)
set_option maxRecDepth 100000 in
theorem w_ae_n {off : Int} (ha : ab_ok a = true) (hb : ab_ok b = true) (hab : a ≠ b) (hf : y.2.2.find? (fun x => x.1 == pc) = some (pc0, .if_acmp .eq off, 3)) (hj : ab_j pc off = some A) (hB : pc + 3 = Bn) (w : Wd L xs d y (Bn, al, q, h, sl) P X) : Wd L xs d y (pc, al, .ref b :: .ref a :: q, h, sl) P X := w_ae ha hb hf hj hB (fun z => absurd z hab) (fun _ => w)
set_option maxRecDepth 100000 in
theorem w_an_y {off : Int} (ha : ab_ok a = true) (hb : ab_ok b = true) (hab : a = b) (hf : y.2.2.find? (fun x => x.1 == pc) = some (pc0, .if_acmp .ne off, 3)) (hj : ab_j pc off = some A) (hB : pc + 3 = Bn) (w : Wd L xs d y (Bn, al, q, h, sl) P X) : Wd L xs d y (pc, al, .ref b :: .ref a :: q, h, sl) P X := w_an ha hb hf hj hB (fun _ => w) (fun z => absurd hab z)
set_option maxRecDepth 100000 in
theorem w_an_n {off : Int} (ha : ab_ok a = true) (hb : ab_ok b = true) (hab : a ≠ b) (hf : y.2.2.find? (fun x => x.1 == pc) = some (pc0, .if_acmp .ne off, 3)) (hj : ab_j pc off = some A) (w : Wd L xs d y (A, al, q, h, sl) P X) : Wd L xs d y (pc, al, .ref b :: .ref a :: q, h, sl) P X := w_an ha hb hf hj rfl (fun z => absurd z hab) (fun _ => w)
/-! figures and letters as a long -/
def dgV (B : Nat → Nat) : Nat → Nat → Int64 → Int64
  | 0, _, v => v
  | f + 1, p, v => dgV B f (p + 1) (v * 10 + (sb (B p)).toInt64 - 48)
def ltV (B : Nat → Nat) : Nat → Nat → Int64 → Int64
  | 0, _, v => v
  | f + 1, p, v => ltV B f (p + 1) ((v <<< ((8 : Int32).toInt64 &&& 63)) ||| (sb (B p) &&& 255).toInt64)
set_option maxRecDepth 100000 in
theorem lp_18d {x : Int32} (T : tpK C B n) (he : e ≤ n) : ∀ (f p : Nat) (v : Int64), p + f = e → Wd L xs d y_18 (12, [(6, .int (nI p)), (3, .long v), (5, .int 1), (0, .ref 101), (1, .int x), (2, .int (nI e))], [], MH C t, sl) (Rt (some (.long (dgV B f p v))) (MH C t) sl) nX
  | 0, p, v, hf => by
    have h6 := T.2.1
    obtain rfl : p = e := by omega
    refine w_p (pc1 := 14) rfl rfl ?_
    refine w_p (pc1 := 15) rfl rfl ?_
    refine w_t (a := 77) (b := 18) (bN_ge_t (a := p) (b := p) (by omega) (by omega) (by omega)) rfl rfl ?_
    refine w_p (pc1 := 78) rfl rfl ?_
    refine w_r rfl rfl rfl (fun _ _ => rfl) rfl ?_
    exact ⟨rfl, rfl, rfl⟩
  | f + 1, p, v, hf => by
    have h6 := T.2.1
    have hn : p < n := by omega
    refine w_p (pc1 := 14) rfl rfl ?_
    refine w_p (pc1 := 15) rfl rfl ?_
    refine w_f (a := 77) (b := 18) (bN_ge_f (a := p) (b := e) (by omega) (by omega) (by omega)) rfl rfl ?_
    refine w_p (pc1 := 20) rfl rfl ?_
    refine w_p (pc1 := 21) rfl rfl ?_
    refine w_m0 (pc1 := 24) (st1 := .int (nI (n)) :: _) rfl rfl (h_gIe rfl rfl rfl rfl rfl (T.1)) rfl ?_
    refine w_f (a := 77) (b := 27) (bN_ge_f (a := p) (b := n) (by omega) (by omega) (by omega)) rfl rfl ?_
    refine w_p (pc1 := 29) rfl rfl ?_
    refine w_f (a := 53) (b := 32) rfl rfl rfl ?_
    refine w_p (pc1 := 33) rfl rfl ?_
    refine w_m0 (pc1 := 36) (st1 := .long 10 :: _) rfl rfl rfl rfl ?_
    refine w_p (pc1 := 37) rfl rfl ?_
    refine w_p (pc1 := 38) rfl rfl ?_
    refine w_m0 (pc1 := 41) rfl rfl (h_gC rfl rfl rfl rfl) rfl ?_
    refine w_p (pc1 := 43) rfl rfl ?_
    refine w_m0 (pc1 := 44) (st1 := .int (sb (B p)) :: _) rfl rfl (n_ble (e := p) rfl rfl (by decide) rfl (by omega) ((T.2.2 p hn).2)) rfl ?_
    refine w_p (pc1 := 45) rfl rfl ?_
    refine w_p (pc1 := 46) rfl rfl ?_
    refine w_m0 (pc1 := 49) (st1 := .long 48 :: _) rfl rfl rfl rfl ?_
    refine w_p (pc1 := 50) rfl rfl ?_
    refine w_p (pc1 := 70) rfl rfl ?_
    refine w_p (pc1 := 71) (al1 := [(3, _), (6, .int (nI (p))), (5, .int 1), (0, .ref 101), (1, _), (2, .int (nI (e)))]) rfl rfl ?_
    refine w_iinc (pc1 := 74) (u := nI (p)) (z := nI (p + 1)) (al1 := [(6, .int (nI (p + 1))), (3, _), (5, .int 1), (0, .ref 101), (1, _), (2, .int (nI (e)))]) rfl rfl rfl nK_1 rfl rfl ?_
    refine w_p (pc1 := 12) rfl rfl ?_
    exact lp_18d T he f (p + 1) _ (by omega)
set_option maxRecDepth 100000 in
theorem lp_18l {x : Int32} (T : tpK C B n) (he : e ≤ n) : ∀ (f p : Nat) (v : Int64), p + f = e → Wd L xs d y_18 (12, [(6, .int (nI p)), (3, .long v), (5, .int 0), (0, .ref 101), (1, .int x), (2, .int (nI e))], [], MH C t, sl) (Rt (some (.long (ltV B f p v))) (MH C t) sl) nX
  | 0, p, v, hf => by
    have h6 := T.2.1
    obtain rfl : p = e := by omega
    refine w_p (pc1 := 14) rfl rfl ?_
    refine w_p (pc1 := 15) rfl rfl ?_
    refine w_t (a := 77) (b := 18) (bN_ge_t (a := p) (b := p) (by omega) (by omega) (by omega)) rfl rfl ?_
    refine w_p (pc1 := 78) rfl rfl ?_
    refine w_r rfl rfl rfl (fun _ _ => rfl) rfl ?_
    exact ⟨rfl, rfl, rfl⟩
  | f + 1, p, v, hf => by
    have h6 := T.2.1
    have hn : p < n := by omega
    refine w_p (pc1 := 14) rfl rfl ?_
    refine w_p (pc1 := 15) rfl rfl ?_
    refine w_f (a := 77) (b := 18) (bN_ge_f (a := p) (b := e) (by omega) (by omega) (by omega)) rfl rfl ?_
    refine w_p (pc1 := 20) rfl rfl ?_
    refine w_p (pc1 := 21) rfl rfl ?_
    refine w_m0 (pc1 := 24) (st1 := .int (nI (n)) :: _) rfl rfl (h_gIe rfl rfl rfl rfl rfl (T.1)) rfl ?_
    refine w_f (a := 77) (b := 27) (bN_ge_f (a := p) (b := n) (by omega) (by omega) (by omega)) rfl rfl ?_
    refine w_p (pc1 := 29) rfl rfl ?_
    refine w_t (a := 53) (b := 32) rfl rfl rfl ?_
    refine w_p (pc1 := 54) rfl rfl ?_
    refine w_p (pc1 := 56) (st1 := .int 8 :: _) rfl rfl ?_
    refine w_p (pc1 := 57) rfl rfl ?_
    refine w_p (pc1 := 58) rfl rfl ?_
    refine w_m0 (pc1 := 61) rfl rfl (h_gC rfl rfl rfl rfl) rfl ?_
    refine w_p (pc1 := 63) rfl rfl ?_
    refine w_m0 (pc1 := 64) (st1 := .int (sb (B p)) :: _) rfl rfl (n_ble (e := p) rfl rfl (by decide) rfl (by omega) ((T.2.2 p hn).2)) rfl ?_
    refine w_p (pc1 := 67) (st1 := .int 255 :: _) rfl rfl ?_
    refine w_p (pc1 := 68) rfl rfl ?_
    refine w_p (pc1 := 69) rfl rfl ?_
    refine w_p (pc1 := 70) rfl rfl ?_
    refine w_p (pc1 := 71) (al1 := [(3, _), (6, .int (nI (p))), (5, .int 0), (0, .ref 101), (1, _), (2, .int (nI (e)))]) rfl rfl ?_
    refine w_iinc (pc1 := 74) (u := nI (p)) (z := nI (p + 1)) (al1 := [(6, .int (nI (p + 1))), (3, _), (5, .int 0), (0, .ref 101), (1, _), (2, .int (nI (e)))]) rfl rfl rfl nK_1 rfl rfl ?_
    refine w_p (pc1 := 12) rfl rfl ?_
    exact lp_18l T he f (p + 1) _ (by omega)
def tkV (B : Nat → Nat) (n p e : Nat) : Int64 := bif atF B n p then dgV B (e - p) p 0 else ltV B (e - p) p 0
set_option maxRecDepth 100000 in
theorem m_18 (T : tpK C B n) (hp : p ≤ e) (he : e ≤ n) : Wd L xs (d + 1) y_18 (0, [(0, .ref 101), (1, .int (nI p)), (2, .int (nI e))], [], MH C t, sl) (Rt (some (.long (tkV B n p e))) (MH C t) sl) nX := by
  have h6 := T.2.1
  unfold tkV
  cases hf : atF B n p with
  | true =>
    simp only [cond_true]
    by_cases hpe : p = e
    · subst hpe
      rw [Nat.sub_self]
      refine w_p (pc1 := 1) (st1 := .long 0 :: _) rfl rfl ?_
      refine w_p (pc1 := 2) (al1 := [(3, .long 0), (0, .ref 101), (1, .int (nI (p))), (2, .int (nI (p)))]) rfl rfl ?_
      refine w_p (pc1 := 3) rfl rfl ?_
      refine w_p (pc1 := 4) rfl rfl ?_
      refine w_je (pc1 := 7) (vs := [.ref 101, .int (nI (p))]) (rest := []) (st1 := [.int 1]) (m_17t (d := _) (sl := 0) T (by omega) hf) rfl rfl rfl (fun _ _ => rfl) rfl (by exact cl_v my_17 rfl rfl rfl (Nat.le_of_ble_eq_true rfl) rfl (MH_obj rfl rfl) rfl (by decide) rfl rfl) (by rfl) (Nat.le_of_ble_eq_true rfl) (Nat.le_of_ble_eq_true rfl) rfl (by rfl) ?_
      refine w_p (pc1 := 9) (al1 := [(5, .int 1), (3, .long 0), (0, .ref 101), (1, .int (nI (p))), (2, .int (nI (p)))]) rfl rfl ?_
      refine w_p (pc1 := 10) rfl rfl ?_
      refine w_p (pc1 := 12) (al1 := [(6, .int (nI (p))), (5, .int 1), (3, .long 0), (0, .ref 101), (1, .int (nI (p))), (2, .int (nI (p)))]) rfl rfl ?_
      refine w_p (pc1 := 14) rfl rfl ?_
      refine w_p (pc1 := 15) rfl rfl ?_
      refine w_t (a := 77) (b := 18) (bN_ge_t (a := p) (b := p) (by omega) (by omega) (by omega)) rfl rfl ?_
      refine w_p (pc1 := 78) rfl rfl ?_
      refine w_r rfl rfl rfl (fun _ _ => rfl) rfl ?_
      exact ⟨rfl, rfl, rfl⟩
    · have hn : p < n := by omega
      rw [show e - p = (e - (p + 1)) + 1 by omega]
      refine w_p (pc1 := 1) (st1 := .long 0 :: _) rfl rfl ?_
      refine w_p (pc1 := 2) (al1 := [(3, .long 0), (0, .ref 101), (1, .int (nI (p))), (2, .int (nI (e)))]) rfl rfl ?_
      refine w_p (pc1 := 3) rfl rfl ?_
      refine w_p (pc1 := 4) rfl rfl ?_
      refine w_je (pc1 := 7) (vs := [.ref 101, .int (nI (p))]) (rest := []) (st1 := [.int 1]) (m_17t (d := _) (sl := 0) T (by omega) hf) rfl rfl rfl (fun _ _ => rfl) rfl (by exact cl_v my_17 rfl rfl rfl (Nat.le_of_ble_eq_true rfl) rfl (MH_obj rfl rfl) rfl (by decide) rfl rfl) (by rfl) (Nat.le_of_ble_eq_true rfl) (Nat.le_of_ble_eq_true rfl) rfl (by rfl) ?_
      refine w_p (pc1 := 9) (al1 := [(5, .int 1), (3, .long 0), (0, .ref 101), (1, .int (nI (p))), (2, .int (nI (e)))]) rfl rfl ?_
      refine w_p (pc1 := 10) rfl rfl ?_
      refine w_p (pc1 := 12) (al1 := [(6, .int (nI (p))), (5, .int 1), (3, .long 0), (0, .ref 101), (1, .int (nI (p))), (2, .int (nI (e)))]) rfl rfl ?_
      refine w_p (pc1 := 14) rfl rfl ?_
      refine w_p (pc1 := 15) rfl rfl ?_
      refine w_f (a := 77) (b := 18) (bN_ge_f (a := p) (b := e) (by omega) (by omega) (by omega)) rfl rfl ?_
      refine w_p (pc1 := 20) rfl rfl ?_
      refine w_p (pc1 := 21) rfl rfl ?_
      refine w_m0 (pc1 := 24) (st1 := .int (nI (n)) :: _) rfl rfl (h_gIe rfl rfl rfl rfl rfl (T.1)) rfl ?_
      refine w_f (a := 77) (b := 27) (bN_ge_f (a := p) (b := n) (by omega) (by omega) (by omega)) rfl rfl ?_
      refine w_p (pc1 := 29) rfl rfl ?_
      refine w_f (a := 53) (b := 32) rfl rfl rfl ?_
      refine w_p (pc1 := 33) rfl rfl ?_
      refine w_m0 (pc1 := 36) (st1 := .long 10 :: _) rfl rfl rfl rfl ?_
      refine w_p (pc1 := 37) rfl rfl ?_
      refine w_p (pc1 := 38) rfl rfl ?_
      refine w_m0 (pc1 := 41) rfl rfl (h_gC rfl rfl rfl rfl) rfl ?_
      refine w_p (pc1 := 43) rfl rfl ?_
      refine w_m0 (pc1 := 44) (st1 := .int (sb (B p)) :: _) rfl rfl (n_ble (e := p) rfl rfl (by decide) rfl (by omega) ((T.2.2 p hn).2)) rfl ?_
      refine w_p (pc1 := 45) rfl rfl ?_
      refine w_p (pc1 := 46) rfl rfl ?_
      refine w_m0 (pc1 := 49) (st1 := .long 48 :: _) rfl rfl rfl rfl ?_
      refine w_p (pc1 := 50) rfl rfl ?_
      refine w_p (pc1 := 70) rfl rfl ?_
      refine w_p (pc1 := 71) (al1 := [(3, _), (6, .int (nI (p))), (5, .int 1), (0, .ref 101), (1, .int (nI (p))), (2, .int (nI (e)))]) rfl rfl ?_
      refine w_iinc (pc1 := 74) (u := nI (p)) (z := nI (p + 1)) (al1 := [(6, .int (nI (p + 1))), (3, _), (5, .int 1), (0, .ref 101), (1, .int (nI (p))), (2, .int (nI (e)))]) rfl rfl rfl nK_1 rfl rfl ?_
      refine w_p (pc1 := 12) rfl rfl ?_
      exact lp_18d T he (e - (p + 1)) (p + 1) _ (by omega)
  | false =>
    simp only [cond_false]
    by_cases hpe : p = e
    · subst hpe
      rw [Nat.sub_self]
      refine w_p (pc1 := 1) (st1 := .long 0 :: _) rfl rfl ?_
      refine w_p (pc1 := 2) (al1 := [(3, .long 0), (0, .ref 101), (1, .int (nI (p))), (2, .int (nI (p)))]) rfl rfl ?_
      refine w_p (pc1 := 3) rfl rfl ?_
      refine w_p (pc1 := 4) rfl rfl ?_
      refine w_je (pc1 := 7) (vs := [.ref 101, .int (nI (p))]) (rest := []) (st1 := [.int 0]) (m_17f (d := _) (sl := 0) T (by omega) hf) rfl rfl rfl (fun _ _ => rfl) rfl (by exact cl_v my_17 rfl rfl rfl (Nat.le_of_ble_eq_true rfl) rfl (MH_obj rfl rfl) rfl (by decide) rfl rfl) (by rfl) (Nat.le_of_ble_eq_true rfl) (Nat.le_of_ble_eq_true rfl) rfl (by rfl) ?_
      refine w_p (pc1 := 9) (al1 := [(5, .int 0), (3, .long 0), (0, .ref 101), (1, .int (nI (p))), (2, .int (nI (p)))]) rfl rfl ?_
      refine w_p (pc1 := 10) rfl rfl ?_
      refine w_p (pc1 := 12) (al1 := [(6, .int (nI (p))), (5, .int 0), (3, .long 0), (0, .ref 101), (1, .int (nI (p))), (2, .int (nI (p)))]) rfl rfl ?_
      refine w_p (pc1 := 14) rfl rfl ?_
      refine w_p (pc1 := 15) rfl rfl ?_
      refine w_t (a := 77) (b := 18) (bN_ge_t (a := p) (b := p) (by omega) (by omega) (by omega)) rfl rfl ?_
      refine w_p (pc1 := 78) rfl rfl ?_
      refine w_r rfl rfl rfl (fun _ _ => rfl) rfl ?_
      exact ⟨rfl, rfl, rfl⟩
    · have hn : p < n := by omega
      rw [show e - p = (e - (p + 1)) + 1 by omega]
      refine w_p (pc1 := 1) (st1 := .long 0 :: _) rfl rfl ?_
      refine w_p (pc1 := 2) (al1 := [(3, .long 0), (0, .ref 101), (1, .int (nI (p))), (2, .int (nI (e)))]) rfl rfl ?_
      refine w_p (pc1 := 3) rfl rfl ?_
      refine w_p (pc1 := 4) rfl rfl ?_
      refine w_je (pc1 := 7) (vs := [.ref 101, .int (nI (p))]) (rest := []) (st1 := [.int 0]) (m_17f (d := _) (sl := 0) T (by omega) hf) rfl rfl rfl (fun _ _ => rfl) rfl (by exact cl_v my_17 rfl rfl rfl (Nat.le_of_ble_eq_true rfl) rfl (MH_obj rfl rfl) rfl (by decide) rfl rfl) (by rfl) (Nat.le_of_ble_eq_true rfl) (Nat.le_of_ble_eq_true rfl) rfl (by rfl) ?_
      refine w_p (pc1 := 9) (al1 := [(5, .int 0), (3, .long 0), (0, .ref 101), (1, .int (nI (p))), (2, .int (nI (e)))]) rfl rfl ?_
      refine w_p (pc1 := 10) rfl rfl ?_
      refine w_p (pc1 := 12) (al1 := [(6, .int (nI (p))), (5, .int 0), (3, .long 0), (0, .ref 101), (1, .int (nI (p))), (2, .int (nI (e)))]) rfl rfl ?_
      refine w_p (pc1 := 14) rfl rfl ?_
      refine w_p (pc1 := 15) rfl rfl ?_
      refine w_f (a := 77) (b := 18) (bN_ge_f (a := p) (b := e) (by omega) (by omega) (by omega)) rfl rfl ?_
      refine w_p (pc1 := 20) rfl rfl ?_
      refine w_p (pc1 := 21) rfl rfl ?_
      refine w_m0 (pc1 := 24) (st1 := .int (nI (n)) :: _) rfl rfl (h_gIe rfl rfl rfl rfl rfl (T.1)) rfl ?_
      refine w_f (a := 77) (b := 27) (bN_ge_f (a := p) (b := n) (by omega) (by omega) (by omega)) rfl rfl ?_
      refine w_p (pc1 := 29) rfl rfl ?_
      refine w_t (a := 53) (b := 32) rfl rfl rfl ?_
      refine w_p (pc1 := 54) rfl rfl ?_
      refine w_p (pc1 := 56) (st1 := .int 8 :: _) rfl rfl ?_
      refine w_p (pc1 := 57) rfl rfl ?_
      refine w_p (pc1 := 58) rfl rfl ?_
      refine w_m0 (pc1 := 61) rfl rfl (h_gC rfl rfl rfl rfl) rfl ?_
      refine w_p (pc1 := 63) rfl rfl ?_
      refine w_m0 (pc1 := 64) (st1 := .int (sb (B p)) :: _) rfl rfl (n_ble (e := p) rfl rfl (by decide) rfl (by omega) ((T.2.2 p hn).2)) rfl ?_
      refine w_p (pc1 := 67) (st1 := .int 255 :: _) rfl rfl ?_
      refine w_p (pc1 := 68) rfl rfl ?_
      refine w_p (pc1 := 69) rfl rfl ?_
      refine w_p (pc1 := 70) rfl rfl ?_
      refine w_p (pc1 := 71) (al1 := [(3, _), (6, .int (nI (p))), (5, .int 0), (0, .ref 101), (1, .int (nI (p))), (2, .int (nI (e)))]) rfl rfl ?_
      refine w_iinc (pc1 := 74) (u := nI (p)) (z := nI (p + 1)) (al1 := [(6, .int (nI (p + 1))), (3, _), (5, .int 0), (0, .ref 101), (1, .int (nI (p))), (2, .int (nI (e)))]) rfl rfl rfl nK_1 rfl rfl ?_
      refine w_p (pc1 := 12) rfl rfl ?_
      exact lp_18l T he (e - (p + 1)) (p + 1) _ (by omega)
/-! the known token with these letters -/
def spt (v : Int64) : Nat → Nat → Nat
  | 0, _ => 3
  | f + 1, i => bif decide (tk_l.getD i 0 = v) then 1 + i else spt v f (i + 1)
set_option maxRecDepth 100000 in
theorem spt_le (v : Int64) : ∀ f i, i + f = 59 → 1 ≤ spt v f i ∧ spt v f i ≤ 59
  | 0, _, _ => by
    show 1 ≤ 3 ∧ 3 ≤ 59
    decide
  | f + 1, i, h => by
    rw [spt]
    have := spt_le v f (i + 1) (by omega)
    cases decide (tk_l.getD i 0 = v)
    · exact this
    · simp only [cond_true]
      omega
set_option maxRecDepth 100000 in
theorem lp_20 {v : Int64} : ∀ f i : Nat, i + f = 59 → Wd L xs d y_20 (2, [(2, .int (nI i)), (0, .long v)], [], h, sl) (Rt (some (.ref (spt v f i))) h sl) nX
  | 0, i, hf => by
    obtain rfl : i = 59 := by omega
    refine w_p (pc1 := 3) rfl rfl ?_
    refine w_m0 (pc1 := 6) (st1 := .ref 60 :: _) rfl rfl rfl rfl ?_
    refine w_m0 (pc1 := 7) (st1 := .int 59 :: _) rfl rfl (rfl) rfl ?_
    refine w_t (a := 35) (b := 10) (bN_ge_t (a := 59) (b := 59) (by omega) (by omega) (by omega)) rfl rfl ?_
    refine w_m0 (pc1 := 38) (st1 := .ref 3 :: _) rfl rfl rfl rfl ?_
    refine w_r rfl rfl rfl (fun _ _ => rfl) rfl ?_
    exact ⟨rfl, rfl, rfl⟩
  | f + 1, i, hf => by
    by_cases hv : tk_l.getD i 0 = v
    · rw [spt, decide_eq_true hv, cond_true]
      refine w_p (pc1 := 3) rfl rfl ?_
      refine w_m0 (pc1 := 6) (st1 := .ref 60 :: _) rfl rfl rfl rfl ?_
      refine w_m0 (pc1 := 7) (st1 := .int 59 :: _) rfl rfl (rfl) rfl ?_
      refine w_f (a := 35) (b := 10) (bN_ge_f (a := i) (b := 59) (by omega) (by omega) (by omega)) rfl rfl ?_
      refine w_m0 (pc1 := 13) (st1 := .ref 60 :: _) rfl rfl rfl rfl ?_
      refine w_p (pc1 := 14) rfl rfl ?_
      refine w_m0 (pc1 := 15) rfl rfl (h_kn (e := i) (by omega)) rfl ?_
      refine w_m0 (pc1 := 18) rfl rfl (h_lt (e := i) (by omega)) rfl ?_
      refine w_p (pc1 := 19) rfl rfl ?_
      refine w_p (pc1 := 20) rfl rfl ?_
      refine w_f (a := 29) (b := 23) (lb_ne_f (by exact hv)) rfl rfl ?_
      refine w_m0 (pc1 := 26) (st1 := .ref 60 :: _) rfl rfl rfl rfl ?_
      refine w_p (pc1 := 27) rfl rfl ?_
      refine w_m0 (pc1 := 28) rfl rfl (h_kn (e := i) (by omega)) rfl ?_
      refine w_r rfl rfl rfl (fun _ _ => rfl) rfl ?_
      exact ⟨rfl, rfl, rfl⟩
    · rw [spt, decide_eq_false hv, cond_false]
      refine w_p (pc1 := 3) rfl rfl ?_
      refine w_m0 (pc1 := 6) (st1 := .ref 60 :: _) rfl rfl rfl rfl ?_
      refine w_m0 (pc1 := 7) (st1 := .int 59 :: _) rfl rfl (rfl) rfl ?_
      refine w_f (a := 35) (b := 10) (bN_ge_f (a := i) (b := 59) (by omega) (by omega) (by omega)) rfl rfl ?_
      refine w_m0 (pc1 := 13) (st1 := .ref 60 :: _) rfl rfl rfl rfl ?_
      refine w_p (pc1 := 14) rfl rfl ?_
      refine w_m0 (pc1 := 15) rfl rfl (h_kn (e := i) (by omega)) rfl ?_
      refine w_m0 (pc1 := 18) rfl rfl (h_lt (e := i) (by omega)) rfl ?_
      refine w_p (pc1 := 19) rfl rfl ?_
      refine w_p (pc1 := 20) rfl rfl ?_
      refine w_t (a := 29) (b := 23) (lb_ne_t (by exact hv)) rfl rfl ?_
      refine w_iinc (pc1 := 32) (u := nI (i)) (z := nI (i + 1)) (al1 := [(2, .int (nI (i + 1))), (0, .long (v))]) rfl rfl rfl nK_1 rfl rfl ?_
      refine w_p (pc1 := 2) rfl rfl ?_
      exact lp_20 f (i + 1) (by omega)
set_option maxRecDepth 100000 in
theorem m_20 {v : Int64} : Wd L xs d y_20 (0, [(0, .long v)], [], h, sl) (Rt (some (.ref (spt v 59 0))) h sl) nX := by
  refine w_p (pc1 := 1) (st1 := .int 0 :: _) rfl rfl ?_
  refine w_p (pc1 := 2) (al1 := [(2, .int 0), (0, .long (v))]) rfl rfl ?_
  exact lp_20 59 0 rfl
/-! the kind of a token, by its number -/
def tkK (B : Nat → Nat) (n p e : Nat) (v : Int64) : Nat := if n ≤ p then 2 else bif atF B n p then (if 9 < e - p then 1 else 4) else bif atL B n p then (if 8 < e - p then 1 else spt v 59 0) else (if spt v 59 0 = 3 then 1 else spt v 59 0)
set_option maxRecDepth 100000 in
theorem ok_s {v : Int64} : ab_ok (spt v 59 0) = true := by
  have := spt_le v 59 0 rfl
  unfold ab_ok
  simp [this]
set_option maxRecDepth 100000 in
theorem m_19 {v : Int64} (T : tpK C B n) (hp : p ≤ e) (he : e ≤ n) : Wd L xs (d + 1) y_19 (0, [(0, .ref 101), (1, .int (nI p)), (2, .int (nI e)), (3, .long v)], [], MH C t, sl) (Rt (some (.ref (tkK B n p e v))) (MH C t) sl) nX := by
  have h6 := T.2.1
  unfold tkK
  by_cases hn : n ≤ p
  · rw [if_pos hn]
    refine w_p (pc1 := 1) rfl rfl ?_
    refine w_p (pc1 := 2) rfl rfl ?_
    refine w_m0 (pc1 := 5) (st1 := .int (nI (n)) :: _) rfl rfl (h_gIe rfl rfl rfl rfl rfl (T.1)) rfl ?_
    refine w_f (a := 12) (b := 8) (bN_lt_f (a := p) (b := n) (by omega) (by omega) (by omega)) rfl rfl ?_
    refine w_m0 (pc1 := 11) (st1 := .ref 2 :: _) rfl rfl rfl rfl ?_
    refine w_r rfl rfl rfl (fun _ _ => rfl) rfl ?_
    exact ⟨rfl, rfl, rfl⟩
  · rw [if_neg hn]
    cases hf : atF B n p with
    | true =>
      simp only [cond_true]
      by_cases h9 : 9 < e - p
      · rw [if_pos h9]
        refine w_p (pc1 := 1) rfl rfl ?_
        refine w_p (pc1 := 2) rfl rfl ?_
        refine w_m0 (pc1 := 5) (st1 := .int (nI (n)) :: _) rfl rfl (h_gIe rfl rfl rfl rfl rfl (T.1)) rfl ?_
        refine w_t (a := 12) (b := 8) (bN_lt_t (a := p) (b := n) (by omega) (by omega) (by omega)) rfl rfl ?_
        refine w_p (pc1 := 13) rfl rfl ?_
        refine w_p (pc1 := 14) rfl rfl ?_
        refine w_je (pc1 := 17) (vs := [.ref 101, .int (nI (p))]) (rest := []) (st1 := [.int 1]) (m_17t (d := _) (sl := 0) T (by omega) hf) rfl rfl rfl (fun _ _ => rfl) rfl (by exact cl_v my_17 rfl rfl rfl (Nat.le_of_ble_eq_true rfl) rfl (MH_obj rfl rfl) rfl (by decide) rfl rfl) (by rfl) (Nat.le_of_ble_eq_true rfl) (Nat.le_of_ble_eq_true rfl) rfl (by rfl) ?_
        refine w_f (a := 38) (b := 20) rfl rfl rfl ?_
        refine w_p (pc1 := 21) rfl rfl ?_
        refine w_p (pc1 := 22) rfl rfl ?_
        refine w_isub (pc1 := 23) (u := nI (e)) (v := nI (p)) (z := nI (e - p)) rfl (nK_sub (by omega)) rfl ?_
        refine w_p (pc1 := 25) (st1 := .int 9 :: _) rfl rfl ?_
        refine w_f (a := 34) (b := 28) (bN_le_f (a := e - p) (b := 9) (by omega) (by omega) (by omega)) rfl rfl ?_
        refine w_m0 (pc1 := 31) (st1 := .ref 1 :: _) rfl rfl rfl rfl ?_
        refine w_p (pc1 := 37) rfl rfl ?_
        refine w_r rfl rfl rfl (fun _ _ => rfl) rfl ?_
        exact ⟨rfl, rfl, rfl⟩
      · rw [if_neg h9]
        refine w_p (pc1 := 1) rfl rfl ?_
        refine w_p (pc1 := 2) rfl rfl ?_
        refine w_m0 (pc1 := 5) (st1 := .int (nI (n)) :: _) rfl rfl (h_gIe rfl rfl rfl rfl rfl (T.1)) rfl ?_
        refine w_t (a := 12) (b := 8) (bN_lt_t (a := p) (b := n) (by omega) (by omega) (by omega)) rfl rfl ?_
        refine w_p (pc1 := 13) rfl rfl ?_
        refine w_p (pc1 := 14) rfl rfl ?_
        refine w_je (pc1 := 17) (vs := [.ref 101, .int (nI (p))]) (rest := []) (st1 := [.int 1]) (m_17t (d := _) (sl := 0) T (by omega) hf) rfl rfl rfl (fun _ _ => rfl) rfl (by exact cl_v my_17 rfl rfl rfl (Nat.le_of_ble_eq_true rfl) rfl (MH_obj rfl rfl) rfl (by decide) rfl rfl) (by rfl) (Nat.le_of_ble_eq_true rfl) (Nat.le_of_ble_eq_true rfl) rfl (by rfl) ?_
        refine w_f (a := 38) (b := 20) rfl rfl rfl ?_
        refine w_p (pc1 := 21) rfl rfl ?_
        refine w_p (pc1 := 22) rfl rfl ?_
        refine w_isub (pc1 := 23) (u := nI (e)) (v := nI (p)) (z := nI (e - p)) rfl (nK_sub (by omega)) rfl ?_
        refine w_p (pc1 := 25) (st1 := .int 9 :: _) rfl rfl ?_
        refine w_t (a := 34) (b := 28) (bN_le_t (a := e - p) (b := 9) (by omega) (by omega) (by omega)) rfl rfl ?_
        refine w_m0 (pc1 := 37) (st1 := .ref 4 :: _) rfl rfl rfl rfl ?_
        refine w_r rfl rfl rfl (fun _ _ => rfl) rfl ?_
        exact ⟨rfl, rfl, rfl⟩
    | false =>
      simp only [cond_false]
      cases hl : atL B n p with
      | true =>
        simp only [cond_true]
        by_cases h8 : 8 < e - p
        · rw [if_pos h8]
          refine w_p (pc1 := 1) rfl rfl ?_
          refine w_p (pc1 := 2) rfl rfl ?_
          refine w_m0 (pc1 := 5) (st1 := .int (nI (n)) :: _) rfl rfl (h_gIe rfl rfl rfl rfl rfl (T.1)) rfl ?_
          refine w_t (a := 12) (b := 8) (bN_lt_t (a := p) (b := n) (by omega) (by omega) (by omega)) rfl rfl ?_
          refine w_p (pc1 := 13) rfl rfl ?_
          refine w_p (pc1 := 14) rfl rfl ?_
          refine w_je (pc1 := 17) (vs := [.ref 101, .int (nI (p))]) (rest := []) (st1 := [.int 0]) (m_17f (d := _) (sl := 0) T (by omega) hf) rfl rfl rfl (fun _ _ => rfl) rfl (by exact cl_v my_17 rfl rfl rfl (Nat.le_of_ble_eq_true rfl) rfl (MH_obj rfl rfl) rfl (by decide) rfl rfl) (by rfl) (Nat.le_of_ble_eq_true rfl) (Nat.le_of_ble_eq_true rfl) rfl (by rfl) ?_
          refine w_t (a := 38) (b := 20) rfl rfl rfl ?_
          refine w_p (pc1 := 39) rfl rfl ?_
          refine w_je (pc1 := 42) (vs := [.long (v)]) (rest := []) (st1 := [.ref (spt v 59 0)]) (m_20 (d := _) (sl := 0)) rfl rfl rfl (fun _ _ => rfl) rfl (by exact cl_s my_20 rfl rfl rfl (Nat.le_of_ble_eq_true rfl) rfl rfl) (by rfl) (Nat.le_of_ble_eq_true rfl) (Nat.le_of_ble_eq_true rfl) rfl (by rfl) ?_
          refine w_p (pc1 := 44) (al1 := [(5, .ref (spt v 59 0)), (0, .ref 101), (1, .int (nI (p))), (2, .int (nI (e))), (3, .long (v))]) rfl rfl ?_
          refine w_p (pc1 := 45) rfl rfl ?_
          refine w_p (pc1 := 46) rfl rfl ?_
          refine w_je (pc1 := 49) (vs := [.ref 101, .int (nI (p))]) (rest := []) (st1 := [.int 1]) (m_16t (d := _) (sl := 0) T (by omega) hl) rfl rfl rfl (fun _ _ => rfl) rfl (by exact cl_v my_16 rfl rfl rfl (Nat.le_of_ble_eq_true rfl) rfl (MH_obj rfl rfl) rfl (by decide) rfl rfl) (by rfl) (Nat.le_of_ble_eq_true rfl) (Nat.le_of_ble_eq_true rfl) rfl (by rfl) ?_
          refine w_f (a := 69) (b := 52) rfl rfl rfl ?_
          refine w_p (pc1 := 53) rfl rfl ?_
          refine w_p (pc1 := 54) rfl rfl ?_
          refine w_isub (pc1 := 55) (u := nI (e)) (v := nI (p)) (z := nI (e - p)) rfl (nK_sub (by omega)) rfl ?_
          refine w_p (pc1 := 57) (st1 := .int 8 :: _) rfl rfl ?_
          refine w_f (a := 66) (b := 60) (bN_le_f (a := e - p) (b := 8) (by omega) (by omega) (by omega)) rfl rfl ?_
          refine w_m0 (pc1 := 63) (st1 := .ref 1 :: _) rfl rfl rfl rfl ?_
          refine w_p (pc1 := 68) rfl rfl ?_
          refine w_r rfl rfl rfl (fun _ _ => rfl) rfl ?_
          exact ⟨rfl, rfl, rfl⟩
        · rw [if_neg h8]
          refine w_p (pc1 := 1) rfl rfl ?_
          refine w_p (pc1 := 2) rfl rfl ?_
          refine w_m0 (pc1 := 5) (st1 := .int (nI (n)) :: _) rfl rfl (h_gIe rfl rfl rfl rfl rfl (T.1)) rfl ?_
          refine w_t (a := 12) (b := 8) (bN_lt_t (a := p) (b := n) (by omega) (by omega) (by omega)) rfl rfl ?_
          refine w_p (pc1 := 13) rfl rfl ?_
          refine w_p (pc1 := 14) rfl rfl ?_
          refine w_je (pc1 := 17) (vs := [.ref 101, .int (nI (p))]) (rest := []) (st1 := [.int 0]) (m_17f (d := _) (sl := 0) T (by omega) hf) rfl rfl rfl (fun _ _ => rfl) rfl (by exact cl_v my_17 rfl rfl rfl (Nat.le_of_ble_eq_true rfl) rfl (MH_obj rfl rfl) rfl (by decide) rfl rfl) (by rfl) (Nat.le_of_ble_eq_true rfl) (Nat.le_of_ble_eq_true rfl) rfl (by rfl) ?_
          refine w_t (a := 38) (b := 20) rfl rfl rfl ?_
          refine w_p (pc1 := 39) rfl rfl ?_
          refine w_je (pc1 := 42) (vs := [.long (v)]) (rest := []) (st1 := [.ref (spt v 59 0)]) (m_20 (d := _) (sl := 0)) rfl rfl rfl (fun _ _ => rfl) rfl (by exact cl_s my_20 rfl rfl rfl (Nat.le_of_ble_eq_true rfl) rfl rfl) (by rfl) (Nat.le_of_ble_eq_true rfl) (Nat.le_of_ble_eq_true rfl) rfl (by rfl) ?_
          refine w_p (pc1 := 44) (al1 := [(5, .ref (spt v 59 0)), (0, .ref 101), (1, .int (nI (p))), (2, .int (nI (e))), (3, .long (v))]) rfl rfl ?_
          refine w_p (pc1 := 45) rfl rfl ?_
          refine w_p (pc1 := 46) rfl rfl ?_
          refine w_je (pc1 := 49) (vs := [.ref 101, .int (nI (p))]) (rest := []) (st1 := [.int 1]) (m_16t (d := _) (sl := 0) T (by omega) hl) rfl rfl rfl (fun _ _ => rfl) rfl (by exact cl_v my_16 rfl rfl rfl (Nat.le_of_ble_eq_true rfl) rfl (MH_obj rfl rfl) rfl (by decide) rfl rfl) (by rfl) (Nat.le_of_ble_eq_true rfl) (Nat.le_of_ble_eq_true rfl) rfl (by rfl) ?_
          refine w_f (a := 69) (b := 52) rfl rfl rfl ?_
          refine w_p (pc1 := 53) rfl rfl ?_
          refine w_p (pc1 := 54) rfl rfl ?_
          refine w_isub (pc1 := 55) (u := nI (e)) (v := nI (p)) (z := nI (e - p)) rfl (nK_sub (by omega)) rfl ?_
          refine w_p (pc1 := 57) (st1 := .int 8 :: _) rfl rfl ?_
          refine w_t (a := 66) (b := 60) (bN_le_t (a := e - p) (b := 8) (by omega) (by omega) (by omega)) rfl rfl ?_
          refine w_p (pc1 := 68) rfl rfl ?_
          refine w_r rfl rfl rfl (fun _ _ => rfl) rfl ?_
          exact ⟨rfl, rfl, rfl⟩
      | false =>
        simp only [cond_false]
        refine w_p (pc1 := 1) rfl rfl ?_
        refine w_p (pc1 := 2) rfl rfl ?_
        refine w_m0 (pc1 := 5) (st1 := .int (nI (n)) :: _) rfl rfl (h_gIe rfl rfl rfl rfl rfl (T.1)) rfl ?_
        refine w_t (a := 12) (b := 8) (bN_lt_t (a := p) (b := n) (by omega) (by omega) (by omega)) rfl rfl ?_
        refine w_p (pc1 := 13) rfl rfl ?_
        refine w_p (pc1 := 14) rfl rfl ?_
        refine w_je (pc1 := 17) (vs := [.ref 101, .int (nI (p))]) (rest := []) (st1 := [.int 0]) (m_17f (d := _) (sl := 0) T (by omega) hf) rfl rfl rfl (fun _ _ => rfl) rfl (by exact cl_v my_17 rfl rfl rfl (Nat.le_of_ble_eq_true rfl) rfl (MH_obj rfl rfl) rfl (by decide) rfl rfl) (by rfl) (Nat.le_of_ble_eq_true rfl) (Nat.le_of_ble_eq_true rfl) rfl (by rfl) ?_
        refine w_t (a := 38) (b := 20) rfl rfl rfl ?_
        refine w_p (pc1 := 39) rfl rfl ?_
        refine w_je (pc1 := 42) (vs := [.long (v)]) (rest := []) (st1 := [.ref (spt v 59 0)]) (m_20 (d := _) (sl := 0)) rfl rfl rfl (fun _ _ => rfl) rfl (by exact cl_s my_20 rfl rfl rfl (Nat.le_of_ble_eq_true rfl) rfl rfl) (by rfl) (Nat.le_of_ble_eq_true rfl) (Nat.le_of_ble_eq_true rfl) rfl (by rfl) ?_
        refine w_p (pc1 := 44) (al1 := [(5, .ref (spt v 59 0)), (0, .ref 101), (1, .int (nI (p))), (2, .int (nI (e))), (3, .long (v))]) rfl rfl ?_
        refine w_p (pc1 := 45) rfl rfl ?_
        refine w_p (pc1 := 46) rfl rfl ?_
        refine w_je (pc1 := 49) (vs := [.ref 101, .int (nI (p))]) (rest := []) (st1 := [.int 0]) (m_16f (d := _) (sl := 0) T (by omega) hl) rfl rfl rfl (fun _ _ => rfl) rfl (by exact cl_v my_16 rfl rfl rfl (Nat.le_of_ble_eq_true rfl) rfl (MH_obj rfl rfl) rfl (by decide) rfl rfl) (by rfl) (Nat.le_of_ble_eq_true rfl) (Nat.le_of_ble_eq_true rfl) rfl (by rfl) ?_
        refine w_t (a := 69) (b := 52) rfl rfl rfl ?_
        refine w_p (pc1 := 71) rfl rfl ?_
        refine w_m0 (pc1 := 74) (st1 := .ref 3 :: _) rfl rfl rfl rfl ?_
        refine w_an (A := 83) (Bn := 77) ok_s (by decide) rfl rfl rfl (fun h3 => ?_) (fun h3 => ?_)
        · rw [if_pos h3]
          refine w_m0 (pc1 := 80) (st1 := .ref 1 :: _) rfl rfl rfl rfl ?_
          refine w_p (pc1 := 85) rfl rfl ?_
          refine w_r rfl rfl rfl (fun _ _ => rfl) rfl ?_
          exact ⟨rfl, rfl, rfl⟩
        · rw [if_neg h3]
          refine w_p (pc1 := 85) rfl rfl ?_
          refine w_r rfl rfl rfl (fun _ _ => rfl) rfl ?_
          exact ⟨rfl, rfl, rfl⟩
end TK2
