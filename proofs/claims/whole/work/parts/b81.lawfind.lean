
/-! THE LAW: find, table -/
section LWP
variable {L : Nat} {xs : Nat → Int32} {B : Nat → Nat} {n m d sl i b : Nat} {C : co_T} {t : ab_H} {Ks : List Nat} {W : wo_T} {an : Nat → Int32} {P : Option Value → ab_H → Nat → Prop} {X : Nat → ab_H → Nat → Prop} {x : Int32} {a v : Int64}
set_option maxRecDepth 100000 in
theorem clF_0 {sc : sc_T} (h : sc.2.1 b = 0) : clF sc b a = -1 := by
  unfold clF
  rw [h]
  rfl
set_option maxRecDepth 100000 in
theorem la_4 (hi : i + 4 ≤ L) (hL : L < 2147483648) (H : LI C t Ks W B n an) (kk : LC L xs (d + 66) i P X t n sl) : Wd L xs (d + 66) y_296 (321, al4 i, [], MH C t, sl) P X := by
  refine ob_4 (d := d + 65) hi hL H kk (fun a => ?_)
  have hM : ∀ j, mBk Ks j = true → j < t.length := bkO_h H.1.1
  have M1 : ∀ v : Int64, MI (sI (sJ C 140 0 v) 76 0 0) W := fun v => (LI_0 (LI_J (v := v) H)).2.1
  rcases i_sp 9 (by omega) (xs (i + 1)) with h | ⟨m, h9, hx⟩
  · exact Or.inr ⟨1, 13, 0, by omega, by omega, m_172_13 (d := d + 64) (sl := 0) (m_173x (d := d + 58) (sl := 0) (by omega)), m_289o (d := d + 64) (sl := 0) (by omega)⟩
  · refine Or.inl ?_
    rw [hx]
    have key : ∀ r : Int32, Wd L xs (d + 64) y_173 (0, [(0, .ref 100), (1, .int (nI m)), (2, .long a)], [], MH C t, 0) (Rt (some (.int r)) (MH C t) 0) nX → (∀ v, Wd L xs (d + 65) y_289 (0, [(0, .ref 176), (1, .int (nI m)), (2, .long a)], [], MH (sJ C 140 0 v) t, 0) (Rt (some (.int r)) (MH (sI (sJ C 140 0 v) 76 0 0) t) 0) nX) → ∃ r : Int32, Wd L xs (d + 65) y_172 (0, [(0, .ref 100), (1, .int (nI m)), (2, .long a), (4, .ref 240)], [], MH C t, 0) (Rt (some (.int (nI 0))) (MH (sJ C 140 0 r.toInt64) t) 0) nX ∧ Wd L xs (d + 65) y_289 (0, [(0, .ref 176), (1, .int (nI m)), (2, .long a)], [], MH (sJ C 140 0 r.toInt64) t, 0) (Rt (some (.int r)) (MH (sI (sJ C 140 0 r.toInt64) 76 0 (nI 0)) t) 0) nX := fun r w1 w2 => ⟨r, m_172 (d := d + 64) (sl := 0) w1, w2 _⟩
    have col : ∀ b, b < 6 → Wd L xs (d + 63) y_41 (0, [(0, .ref 106), (1, .int (nI b)), (2, .long a)], [], MH C t, 0) (Rt (some (.int (clF (wT W).1 b a))) (MH C t) 0) nX := fun b hb => by
      have w := m_41 (L := L) (xs := xs) (t := t) (d := d + 63) (sl := 0) (a := a) hb (H.1.2.1.1.1.2 b hb).1 (H.1.2.1.1.1.2 b hb).2.1
      rw [clF_K H.1.2.1.1.1 hb a] at w
      exact w
    have hc : m = 0 ∨ m = 1 ∨ m = 2 ∨ m = 3 ∨ m = 4 ∨ m = 5 ∨ m = 6 ∨ m = 7 ∨ m = 8 := by omega
    rcases hc with rfl | rfl | rfl | rfl | rfl | rfl | rfl | rfl | rfl
    · refine key (tbF (wT W).1.1 a) ?_ (fun v => m_289_0 (d := d + 64) (sl := 0) (m_208r (d := d + 64) (tbF_M (SCM_I (M1 v).1) a)))
      have w := m_32 (L := L) (xs := xs) (C := C) (t := t) (d := d + 62) (sl := 0) (a := a)
      rw [tbF_K H.1.2.1.1.1 a] at w
      exact m_173_0 (d := d + 63) (sl := 0) w
    · exact key (trF (wG W) a) (m_173_1 (d := d + 63) (sl := 0) (W_mR (M := mBk Ks) (m_34 (d := d + 63) (sl := 0) (TGN_K H.1.2.1.2.1)) hM)) (fun v => m_289_1 (d := d + 64) (sl := 0) (m_237r (d := d + 64) (trF_M (M1 v).1.2.1 a)))
    · refine key (mkF (xMk (wX W)) a) ?_ (fun v => m_289_2 (d := d + 64) (sl := 0) (m_246 (d := d + 64) (M1 v).2.2.1.2.2 rfl))
      have w := m_92 (L := L) (xs := xs) (C := C) (t := t) (d := d + 63) (sl := 0) (a := a) H.1.2.2.2.1.2.2.1 H.1.2.2.2.1.2.2.2.1
      rw [mkF_K H.1.2.2.2.1.2.2 a] at w
      exact m_173_2 (d := d + 63) (sl := 0) w
    · refine key (clF (wT W).1 0 a) (m_173_3 (d := d + 63) (sl := 0) (col 0 (by omega))) (fun v => ?_)
      by_cases hz : (wT W).1.1 0 = 0
      · rw [clF_0 ((H.2.2.1.1.1.1 0 (by omega)).2.2 hz)]
        exact m_289_3n (d := d + 64) (sl := 0) (H.2.1.1.1.2.1 0 (by omega) hz)
      · exact m_289_3 (d := d + 64) (sl := 0) (H.2.1.1.1.1 0 (by omega) hz).1 (m_213r (d := d + 64) ((M1 v).1.1.1 0 (by omega) hz).2.2.1 rfl)
    · refine key (clF (wT W).1 1 a) (m_173_4 (d := d + 63) (sl := 0) (col 1 (by omega))) (fun v => ?_)
      by_cases hz : (wT W).1.1 1 = 0
      · rw [clF_0 ((H.2.2.1.1.1.1 1 (by omega)).2.2 hz)]
        exact m_289_4n (d := d + 64) (sl := 0) (H.2.1.1.1.2.1 1 (by omega) hz)
      · exact m_289_4 (d := d + 64) (sl := 0) (H.2.1.1.1.1 1 (by omega) hz).1 (m_213r (d := d + 64) ((M1 v).1.1.1 1 (by omega) hz).2.2.1 rfl)
    · refine key (clF (wT W).1 2 a) (m_173_5 (d := d + 63) (sl := 0) (col 2 (by omega))) (fun v => ?_)
      by_cases hz : (wT W).1.1 2 = 0
      · rw [clF_0 ((H.2.2.1.1.1.1 2 (by omega)).2.2 hz)]
        exact m_289_5n (d := d + 64) (sl := 0) (H.2.1.1.1.2.1 2 (by omega) hz)
      · exact m_289_5 (d := d + 64) (sl := 0) (H.2.1.1.1.1 2 (by omega) hz).1 (m_213r (d := d + 64) ((M1 v).1.1.1 2 (by omega) hz).2.2.1 rfl)
    · refine key (clF (wT W).1 3 a) (m_173_6 (d := d + 63) (sl := 0) (col 3 (by omega))) (fun v => ?_)
      by_cases hz : (wT W).1.1 3 = 0
      · rw [clF_0 ((H.2.2.1.1.1.1 3 (by omega)).2.2 hz)]
        exact m_289_6n (d := d + 64) (sl := 0) (H.2.1.1.1.2.1 3 (by omega) hz)
      · exact m_289_6 (d := d + 64) (sl := 0) (H.2.1.1.1.1 3 (by omega) hz).1 (m_213r (d := d + 64) ((M1 v).1.1.1 3 (by omega) hz).2.2.1 rfl)
    · refine key (clF (wT W).1 4 a) (m_173_7 (d := d + 63) (sl := 0) (col 4 (by omega))) (fun v => ?_)
      by_cases hz : (wT W).1.1 4 = 0
      · rw [clF_0 ((H.2.2.1.1.1.1 4 (by omega)).2.2 hz)]
        exact m_289_7n (d := d + 64) (sl := 0) (H.2.1.1.1.2.1 4 (by omega) hz)
      · exact m_289_7 (d := d + 64) (sl := 0) (H.2.1.1.1.1 4 (by omega) hz).1 (m_213r (d := d + 64) ((M1 v).1.1.1 4 (by omega) hz).2.2.1 rfl)
    · refine key (clF (wT W).1 5 a) (m_173_8 (d := d + 63) (sl := 0) (col 5 (by omega))) (fun v => ?_)
      by_cases hz : (wT W).1.1 5 = 0
      · rw [clF_0 ((H.2.2.1.1.1.1 5 (by omega)).2.2 hz)]
        exact m_289_8n (d := d + 64) (sl := 0) (H.2.1.1.1.2.1 5 (by omega) hz)
      · exact m_289_8 (d := d + 64) (sl := 0) (H.2.1.1.1.1 5 (by omega) hz).1 (m_213r (d := d + 64) ((M1 v).1.1.1 5 (by omega) hz).2.2.1 rfl)
/-! a table that is there, or isn't -/
set_option maxRecDepth 100000 in
theorem tb_33 (H : LI C t Ks W B n an) (hb : b < 6) (hz : (wT W).1.1 b ≠ 0) : Wd L xs d y_33 (0, [(0, .ref 106), (1, .int (nI b))], [], MH C t, 0) (Rt (some (.int 1)) (MH C t) 0) nX := m_33t hb (by rw [(fg_T H hb).1, decide_eq_true hz])
set_option maxRecDepth 100000 in
theorem tb_no (H : LI C t Ks W B n an) (x : Int32) : (∃ b, b < 6 ∧ x = nI b ∧ (wT W).1.1 b ≠ 0) ∨ ((C.2.1 7 x.toNatClampNeg = 0 ∨ ¬ (0 ≤ x.toInt ∧ x.toInt < 6)) ∧ (¬ (0 ≤ x.toInt ∧ x.toInt < 6) ∨ ∃ b, b < 6 ∧ x = nI b ∧ C.1 78 b = 0)) := by
  rcases i_sp 6 (by omega) x with h | ⟨b, hb, hx⟩
  · exact Or.inr ⟨Or.inr h, Or.inl h⟩
  · by_cases hz : (wT W).1.1 b = 0
    · refine Or.inr ⟨Or.inl ?_, Or.inr ⟨b, hb, hx, H.2.1.1.1.2.1 b hb hz⟩⟩
      rw [hx, nK_nat (by omega), H.1.2.1.1.1.1 b hb]
      exact hz
    · exact Or.inl ⟨b, hb, hx, hz⟩
set_option maxRecDepth 100000 in
theorem la_5 (hi : i + 4 ≤ L) (hL : L < 2147483648) (H : LI C t Ks W B n an) (kk : LC L xs (d + 66) i P X t n sl) : Wd L xs (d + 66) y_296 (421, al4 i, [], MH C t, sl) P X := by
  rcases tb_no H (xs (i + 1)) with ⟨b, hb, hx, hz⟩ | ⟨h1, h2⟩
  · obtain ⟨t1, t2, t3, t4⟩ := H.2.1.1.1.1 b hb hz
    have hw := (H.1.2.1.1.1.2 b hb).1
    have h6 := (H.1.2.1.1.1.2 b hb).2.1
    rcases i_sp 10 (by omega) (xs (i + 2)) with h | ⟨y, hy, hxy⟩
    · refine ob_5B (d := d + 65) (r := 0) (ci := 13) (k := 2) hi hL H kk (by omega) (by omega) (m_174_13 (d := d + 64) (sl := 0) ?_) ?_
      · rw [hx]; exact m_175x (d := d + 58) (sl := 0) (tb_33 H hb hz) (by omega)
      · rw [hx]; exact m_290x (d := d + 64) (sl := 0) hb t1 (by omega)
    · have key : ∀ r : Int64, Wd L xs (d + 64) y_175 (0, [(0, .ref 100), (1, .int (nI b)), (2, .int (nI y))], [], MH C t, 0) (Rt (some (.long r)) (MH C t) 0) nX → (∀ v, Wd L xs (d + 65) y_290 (0, [(0, .ref 176), (1, .int (nI b)), (2, .int (nI y))], [], MH (sJ C 140 0 v) t, 0) (Rt (some (.long r)) (MH (sI (sJ C 140 0 v) 76 0 0) t) 0) nX) → Wd L xs (d + 66) y_296 (421, al4 i, [], MH C t, sl) P X := fun r w1 w2 => ob_5A (d := d + 65) (r := r) hi hL H kk (by rw [hx, hxy]; exact m_174 (d := d + 64) (sl := 0) w1) (by rw [hx, hxy]; exact w2 _)
      have keyn : Wd L xs (d + 64) y_175 (0, [(0, .ref 100), (1, .int (nI b)), (2, .int (nI y))], [], MH C t, 0) nP (Xk 14 C t 0) → (∀ u, Wd L xs (d + 65) y_290 (0, [(0, .ref 176), (1, .int (nI b)), (2, .int (nI y))], [], MH C u, 0) (Rt (some (.long 0)) (MH (sI C 76 0 1) u) 0) nX) → Wd L xs (d + 66) y_296 (421, al4 i, [], MH C t, sl) P X := fun w1 w2 => ob_5B (d := d + 65) (r := 0) (ci := 14) (k := 1) hi hL H kk (by omega) (by omega) (by rw [hx, hxy]; exact m_174_14 (d := d + 64) (sl := 0) w1) (by rw [hx, hxy]; exact w2 _)
      have hc : y = 0 ∨ y = 1 ∨ y = 2 ∨ y = 3 ∨ y = 4 ∨ y = 5 ∨ y = 6 ∨ y = 7 ∨ y = 8 ∨ y = 9 := by omega
      rcases hc with rfl | rfl | rfl | rfl | rfl | rfl | rfl | rfl | rfl | rfl
      · refine key ((nI ((wT W).1.2.1 b)).toInt64) ?_ (fun v => ?_)
        · have w := m_175_0 (L := L) (xs := xs) (C := C) (t := t) (d := d + 63) (sl := 0) hb (tb_33 H hb hz)
          rw [hw] at w
          exact w
        · have w := m_290_0 (L := L) (xs := xs) (C := sJ C 140 0 v) (t := t) (d := d + 64) (sl := 0) hb t1
          have e : (sJ C 140 0 v).1 80 b = nI ((wT W).1.2.1 b) := t3.2.1
          rw [e] at w
          exact w
      · refine key ((nI (wR W b).1.length).toInt64) ?_ (fun v => ?_)
        · have w := m_175_1 (L := L) (xs := xs) (C := C) (t := t) (d := d + 63) (sl := 0) hb (tb_33 H hb hz)
          rw [(H.1.2.2.1.1 b hb).2.1] at w
          exact w
        · have w := m_290_1 (L := L) (xs := xs) (C := sJ C 140 0 v) (t := t) (d := d + 64) (sl := 0) hb t1
          have e : (sJ C 140 0 v).1 117 b = nI (wR W b).1.length := (H.2.1.2.1.1 b hb).2.1
          rw [e] at w
          exact w
      · refine key (((wR W b).2 + 1).toInt64) ?_ (fun v => ?_)
        · have w := m_175_2 (L := L) (xs := xs) (C := C) (t := t) (d := d + 63) (sl := 0) hb (tb_33 H hb hz)
          rw [H.1.2.2.1.2 b hb] at w
          exact w
        · have w := m_290_2 (L := L) (xs := xs) (C := sJ C 140 0 v) (t := t) (d := d + 64) (sl := 0) hb t1
          have e : (sJ C 140 0 v).1 118 b = (wR W b).2 + 1 := H.2.1.2.1.2 b hb
          rw [e] at w
          exact w
      · refine key ((wT W).1.1 b) ?_ (fun v => ?_)
        · have w := m_175_3 (L := L) (xs := xs) (C := C) (t := t) (d := d + 63) (sl := 0) hb (tb_33 H hb hz)
          rw [H.1.2.1.1.1.1 b hb] at w
          exact w
        · have w := m_290_3 (L := L) (xs := xs) (C := sJ C 140 0 v) (t := t) (d := d + 64) (sl := 0) hb t1
          have e : (sJ C 140 0 v).2.1 79 b = (wT W).1.1 b := t2
          rw [e] at w
          exact w
      · by_cases hc : 0 < (wT W).1.2.1 b
        · refine key ((wT W).1.2.2 b 0) ?_ (fun v => ?_)
          · have w := m_175_4 (L := L) (xs := xs) (C := C) (t := t) (d := d + 63) (sl := 0) hb (tb_33 H hb hz) (m_47 (d := d + 63) (sl := 0) hb hw h6 hc)
            rw [(H.1.2.1.1.1.2 b hb).2.2 0 hc] at w
            exact w
          · have w := m_290_4 (L := L) (xs := xs) (C := sJ C 140 0 v) (t := t) (d := d + 64) (sl := 0) hb t1 t3.2.1 h6 hc
            have e : (sJ C 140 0 v).2.1 81 (6 * b + 0) = (wT W).1.2.2 b 0 := t3.2.2.2 0 hc
            rw [e] at w
            exact w
        · exact keyn (m_175_4n (d := d + 58) (sl := 0) (tb_33 H hb hz) (m_47x (d := d + 63) (sl := 0) (z := 0) hb hw h6 (by show ¬ ((0 : Int) ≤ 0 ∧ (0 : Int) < _); omega))) (fun u => m_290_4n (d := d + 64) (sl := 0) hb t1 t3.2.1 h6 (by omega))
      · by_cases hc : 1 < (wT W).1.2.1 b
        · refine key ((wT W).1.2.2 b 1) ?_ (fun v => ?_)
          · have w := m_175_5 (L := L) (xs := xs) (C := C) (t := t) (d := d + 63) (sl := 0) hb (tb_33 H hb hz) (m_47 (d := d + 63) (sl := 0) hb hw h6 hc)
            rw [(H.1.2.1.1.1.2 b hb).2.2 1 hc] at w
            exact w
          · have w := m_290_5 (L := L) (xs := xs) (C := sJ C 140 0 v) (t := t) (d := d + 64) (sl := 0) hb t1 t3.2.1 h6 hc
            have e : (sJ C 140 0 v).2.1 81 (6 * b + 1) = (wT W).1.2.2 b 1 := t3.2.2.2 1 hc
            rw [e] at w
            exact w
        · exact keyn (m_175_5n (d := d + 58) (sl := 0) (tb_33 H hb hz) (m_47x (d := d + 63) (sl := 0) (z := 1) hb hw h6 (by show ¬ ((0 : Int) ≤ 1 ∧ (1 : Int) < _); omega))) (fun u => m_290_5n (d := d + 64) (sl := 0) hb t1 t3.2.1 h6 (by omega))
      · by_cases hc : 2 < (wT W).1.2.1 b
        · refine key ((wT W).1.2.2 b 2) ?_ (fun v => ?_)
          · have w := m_175_6 (L := L) (xs := xs) (C := C) (t := t) (d := d + 63) (sl := 0) hb (tb_33 H hb hz) (m_47 (d := d + 63) (sl := 0) hb hw h6 hc)
            rw [(H.1.2.1.1.1.2 b hb).2.2 2 hc] at w
            exact w
          · have w := m_290_6 (L := L) (xs := xs) (C := sJ C 140 0 v) (t := t) (d := d + 64) (sl := 0) hb t1 t3.2.1 h6 hc
            have e : (sJ C 140 0 v).2.1 81 (6 * b + 2) = (wT W).1.2.2 b 2 := t3.2.2.2 2 hc
            rw [e] at w
            exact w
        · exact keyn (m_175_6n (d := d + 58) (sl := 0) (tb_33 H hb hz) (m_47x (d := d + 63) (sl := 0) (z := 2) hb hw h6 (by show ¬ ((0 : Int) ≤ 2 ∧ (2 : Int) < _); omega))) (fun u => m_290_6n (d := d + 64) (sl := 0) hb t1 t3.2.1 h6 (by omega))
      · by_cases hc : 3 < (wT W).1.2.1 b
        · refine key ((wT W).1.2.2 b 3) ?_ (fun v => ?_)
          · have w := m_175_7 (L := L) (xs := xs) (C := C) (t := t) (d := d + 63) (sl := 0) hb (tb_33 H hb hz) (m_47 (d := d + 63) (sl := 0) hb hw h6 hc)
            rw [(H.1.2.1.1.1.2 b hb).2.2 3 hc] at w
            exact w
          · have w := m_290_7 (L := L) (xs := xs) (C := sJ C 140 0 v) (t := t) (d := d + 64) (sl := 0) hb t1 t3.2.1 h6 hc
            have e : (sJ C 140 0 v).2.1 81 (6 * b + 3) = (wT W).1.2.2 b 3 := t3.2.2.2 3 hc
            rw [e] at w
            exact w
        · exact keyn (m_175_7n (d := d + 58) (sl := 0) (tb_33 H hb hz) (m_47x (d := d + 63) (sl := 0) (z := 3) hb hw h6 (by show ¬ ((0 : Int) ≤ 3 ∧ (3 : Int) < _); omega))) (fun u => m_290_7n (d := d + 64) (sl := 0) hb t1 t3.2.1 h6 (by omega))
      · by_cases hc : 4 < (wT W).1.2.1 b
        · refine key ((wT W).1.2.2 b 4) ?_ (fun v => ?_)
          · have w := m_175_8 (L := L) (xs := xs) (C := C) (t := t) (d := d + 63) (sl := 0) hb (tb_33 H hb hz) (m_47 (d := d + 63) (sl := 0) hb hw h6 hc)
            rw [(H.1.2.1.1.1.2 b hb).2.2 4 hc] at w
            exact w
          · have w := m_290_8 (L := L) (xs := xs) (C := sJ C 140 0 v) (t := t) (d := d + 64) (sl := 0) hb t1 t3.2.1 h6 hc
            have e : (sJ C 140 0 v).2.1 81 (6 * b + 4) = (wT W).1.2.2 b 4 := t3.2.2.2 4 hc
            rw [e] at w
            exact w
        · exact keyn (m_175_8n (d := d + 58) (sl := 0) (tb_33 H hb hz) (m_47x (d := d + 63) (sl := 0) (z := 4) hb hw h6 (by show ¬ ((0 : Int) ≤ 4 ∧ (4 : Int) < _); omega))) (fun u => m_290_8n (d := d + 64) (sl := 0) hb t1 t3.2.1 h6 (by omega))
      · by_cases hc : 5 < (wT W).1.2.1 b
        · refine key ((wT W).1.2.2 b 5) ?_ (fun v => ?_)
          · have w := m_175_9 (L := L) (xs := xs) (C := C) (t := t) (d := d + 63) (sl := 0) hb (tb_33 H hb hz) (m_47 (d := d + 63) (sl := 0) hb hw h6 hc)
            rw [(H.1.2.1.1.1.2 b hb).2.2 5 hc] at w
            exact w
          · have w := m_290_9 (L := L) (xs := xs) (C := sJ C 140 0 v) (t := t) (d := d + 64) (sl := 0) hb t1 t3.2.1 h6 hc
            have e : (sJ C 140 0 v).2.1 81 (6 * b + 5) = (wT W).1.2.2 b 5 := t3.2.2.2 5 hc
            rw [e] at w
            exact w
        · exact keyn (m_175_9n (d := d + 58) (sl := 0) (tb_33 H hb hz) (m_47x (d := d + 63) (sl := 0) (z := 5) hb hw h6 (by show ¬ ((0 : Int) ≤ 5 ∧ (5 : Int) < _); omega))) (fun u => m_290_9n (d := d + 64) (sl := 0) hb t1 t3.2.1 h6 (by omega))
  · refine ob_5B (d := d + 65) (r := 0) (ci := 14) (k := 1) hi hL H kk (by omega) (by omega) (m_174_14 (d := d + 64) (sl := 0) (m_175n (d := d + 58) (sl := 0) (m_33f h1))) ?_
    rcases h2 with h | ⟨b, hb, hx, hf⟩
    · exact m_290o (d := d + 64) (sl := 0) h
    · rw [hx]; exact m_290n (d := d + 64) (sl := 0) hb hf
end LWP
