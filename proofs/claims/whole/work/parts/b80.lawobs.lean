
/-! THE LAW: told, count, find -/
section LWO
variable {L : Nat} {xs : Nat → Int32} {B : Nat → Nat} {n m d sl i b : Nat} {C : co_T} {t : ab_H} {Ks : List Nat} {W : wo_T} {an : Nat → Int32} {P : Option Value → ab_H → Nat → Prop} {X : Nat → ab_H → Nat → Prop} {x : Int32} {a : Int64}
set_option maxRecDepth 100000 in
theorem i_sp (N : Nat) (hN : N < 1000) (x : Int32) : ¬ (0 ≤ x.toInt ∧ x.toInt < N) ∨ ∃ m, m < N ∧ x = nI m := by
  by_cases h : 0 ≤ x.toInt ∧ x.toInt < N
  · have h3 : x.toNatClampNeg = x.toInt.toNat := rfl
    exact Or.inr ⟨x.toNatClampNeg, by omega, nK_of h.1⟩
  · exact Or.inl h
set_option maxRecDepth 100000 in
theorem cnt_c {p q : Nat → Bool} : ∀ (n k : Nat), (∀ j, k ≤ j → j < k + n → p j = q j) → cnt p n k = cnt q n k
  | 0, _, _ => rfl
  | n + 1, k, h => by
    rw [cnt, cnt, h k (Nat.le_refl k) (by omega), cnt_c n (k + 1) (fun j a b => h j (by omega) (by omega))]
set_option maxRecDepth 100000 in
theorem t165i (h : 0 ≤ x.toInt ∧ x.toInt < 8) : Wd L xs (d + 7) y_165 (0, [(0, .ref 100), (1, .int x), (2, .ref 240)], [], MH C t, sl) (Rt (some (.int 0)) (MH (sJ C 140 0 (C.1 75 x.toNatClampNeg).toInt64) t) sl) nX := Wd_q m_165 (fun v h' q hq => by
  rcases hq with ⟨_, a, b, c⟩ | ⟨z, _⟩
  · exact ⟨a, b, c⟩
  · exact absurd h z) (fun _ _ _ e => e)
set_option maxRecDepth 100000 in
theorem t165o (h : ¬ (0 ≤ x.toInt ∧ x.toInt < 8)) : Wd L xs (d + 7) y_165 (0, [(0, .ref 100), (1, .int x), (2, .ref 240)], [], MH C t, sl) (Rt (some (.int 1)) (MH C (t ++ [.inr (13, [])])) (sl + 6)) nX := Wd_q m_165 (fun v h' q hq => by
  rcases hq with ⟨z, _⟩ | ⟨_, a, b, c⟩
  · exact absurd z h
  · exact ⟨a, b, c⟩) (fun _ _ _ e => e)
set_option maxRecDepth 100000 in
theorem la_2 (hi : i + 4 ≤ L) (hL : L < 2147483648) (H : LI C t Ks W B n an) (kk : LC L xs (d + 66) i P X t n sl) : Wd L xs (d + 66) y_296 (209, al4 i, [], MH C t, sl) P X := by
  rcases i_sp 8 (by omega) (xs (i + 1)) with h | ⟨m, h8, hx⟩
  · exact ob_2B (d := d + 65) (r := 0) (ci := 13) (k := 1) hi hL H kk (by omega) (by omega) (t165o (d := d + 58) (sl := 0) h) (m_287o (d := d + 64) (sl := 0) h)
  · have h : 0 ≤ (xs (i + 1)).toInt ∧ (xs (i + 1)).toInt < 8 := by rw [hx, nK_int (by omega)]; omega
    have e : C.1 75 (xs (i + 1)).toNatClampNeg = tld C (xs (i + 1)) := by rw [hx, nK_nat (by omega), H.2.2.2.2.1 m h8, H.2.2.2.2.2 m h8]
    have w1 := t165i (L := L) (xs := xs) (C := C) (t := t) (d := d + 58) (sl := 0) h
    rw [e] at w1
    exact ob_2A (d := d + 65) (r := tld C (xs (i + 1))) hi hL H kk w1 (m_287i (d := d + 64) (sl := 0) h.1 h.2)
/-! flags on both sides -/
set_option maxRecDepth 100000 in
theorem fg_T (H : LI C t Ks W B n an) {j : Nat} (hj : j < 6) : isT C j = decide ((wT W).1.1 j ≠ 0) ∧ C.1 78 j = ck (decide ((wT W).1.1 j ≠ 0)) := by
  refine ⟨?_, (SCM_I H.2.1.1 j hj).1⟩
  unfold isT
  rw [H.1.2.1.1.1.1 j hj]
  by_cases z : (wT W).1.1 j = 0
  · rw [decide_eq_true z, decide_eq_false (fun y => y z)]; rfl
  · rw [decide_eq_false z, decide_eq_true z]; rfl
set_option maxRecDepth 100000 in
theorem fg_R (H : LI C t Ks W B n an) {j : Nat} (hj : j < 24) : isR C j = (wU W j).isSome ∧ C.1 83 j = ck (wU W j).isSome := by
  refine ⟨?_, ?_⟩
  · have := H.1.2.1.1.2.2 j hj
    unfold isR
    cases e : wU W j with
    | none =>
      rw [show (wT W).2.2 j = none from e] at this
      rw [show C.2.2 11 j = none from this]; rfl
    | some u =>
      rw [show (wT W).2.2 j = some u from e] at this
      obtain ⟨k, e1, _⟩ := this
      rw [e1]; rfl
  · rcases H.2.1.1.1.2.2.1 j hj with ⟨e1, e2⟩ | ⟨u, e1, _, _, e4⟩
    · rw [show wU W j = none from e1]; exact e2
    · rw [show wU W j = some u from e1]; exact e4
set_option maxRecDepth 100000 in
theorem fg_G (H : LI C t Ks W B n an) {j : Nat} (hj : j < 8) : isG C j = (wG W j).isSome ∧ C.1 95 j = ck (wG W j).isSome := by
  refine ⟨?_, ?_⟩
  · have := H.1.2.1.2.1 j hj
    unfold isG
    cases e : wG W j with
    | none =>
      rw [e] at this
      rw [show C.2.2 12 j = none from this]; rfl
    | some u =>
      rw [e] at this
      obtain ⟨k, e1, _⟩ := this
      rw [e1]; rfl
  · have := H.2.1.1.2.1 j hj
    cases e : wG W j with
    | none => rw [e] at this; exact this
    | some u => rw [e] at this; exact this.1
set_option maxRecDepth 100000 in
theorem la_3 (hi : i + 4 ≤ L) (hL : L < 2147483648) (H : LI C t Ks W B n an) (kk : LC L xs (d + 66) i P X t n sl) : Wd L xs (d + 66) y_296 (265, al4 i, [], MH C t, sl) P X := by
  rcases i_sp 7 (by omega) (xs (i + 1)) with h | ⟨m, h8, hx⟩
  · exact ob_3B (d := d + 65) (r := 0) (ci := 13) (k := 1) hi hL H kk (by omega) (by omega) (m_167_13 (d := d + 64) (sl := 0) (m_168x (d := d + 58) (sl := 0) (by omega))) (m_288o (d := d + 64) (sl := 0) (by omega))
  · have hM : ∀ j, mBk Ks j = true → j < t.length := bkO_h H.1.1
    have fT : ∀ (v : Int64) j, j < 6 → (sJ C 140 0 v).1 78 j = ck (decide ((wT W).1.1 j ≠ 0)) := fun v j hj => (fg_T H hj).2
    have fR : ∀ (v : Int64) j, j < 24 → (sJ C 140 0 v).1 83 j = ck (wU W j).isSome := fun v j hj => (fg_R H hj).2
    have fG : ∀ (v : Int64) j, j < 8 → (sJ C 140 0 v).1 95 j = ck (wG W j).isSome := fun v j hj => (fg_G H hj).2
    have key : ∀ r : Int32, Wd L xs (d + 64) y_168 (0, [(0, .ref 100), (1, .int (nI m))], [], MH C t, 0) (Rt (some (.int r)) (MH C t) 0) nX → (∀ v, Wd L xs (d + 65) y_288 (0, [(0, .ref 176), (1, .int (nI m))], [], MH (sJ C 140 0 v) t, 0) (Rt (some (.int r)) (MH (sI (sJ C 140 0 v) 76 0 0) t) 0) nX) → Wd L xs (d + 66) y_296 (265, al4 i, [], MH C t, sl) P X := fun r w1 w2 => ob_3A (d := d + 65) (r := r) hi hL H kk (by rw [hx]; exact m_167 (d := d + 64) (sl := 0) w1) (by rw [hx]; exact w2 _)
    have c0 : cnt (isT C) 6 0 = cnt (fun j => decide ((wT W).1.1 j ≠ 0)) 6 0 := cnt_c 6 0 (fun j _ hj => (fg_T H (by omega)).1)
    have c1 : cnt (isR C) 24 0 = cnt (fun j => (wU W j).isSome) 24 0 := cnt_c 24 0 (fun j _ hj => (fg_R H (by omega)).1)
    have c2 : cnt (isG C) 8 0 = cnt (fun j => (wG W j).isSome) 8 0 := cnt_c 8 0 (fun j _ hj => (fg_G H (by omega)).1)
    have hc : m = 0 ∨ m = 1 ∨ m = 2 ∨ m = 3 ∨ m = 4 ∨ m = 5 ∨ m = 6 := by omega
    rcases hc with rfl | rfl | rfl | rfl | rfl | rfl | rfl
    · exact key (nI (cnt (fun j => decide ((wT W).1.1 j ≠ 0)) 6 0)) (by rw [← c0]; exact m_168_0 (d := d + 63) (sl := 0) (m_169 (d := d + 62) (sl := 0))) (fun v => m_288_0 (d := d + 64) (sl := 0) (fT v) (fR v) (fG v))
    · exact key (nI (cnt (fun j => (wU W j).isSome) 24 0)) (by rw [← c1]; exact m_168_1 (d := d + 63) (sl := 0) (m_170 (d := d + 63) (sl := 0))) (fun v => m_288_1 (d := d + 64) (sl := 0) (fT v) (fR v) (fG v))
    · exact key (nI (cnt (fun j => (wG W j).isSome) 8 0)) (by rw [← c2]; exact m_168_2 (d := d + 63) (sl := 0) (m_171 (d := d + 63) (sl := 0))) (fun v => m_288_2 (d := d + 64) (sl := 0) (fT v) (fR v) (fG v))
    · exact key (nI (xMk (wX W)).1) (m_168_3 (d := d + 64) (sl := 0) H.1.2.2.2.1.2.2.1) (fun v => m_288_3 (d := d + 64) (sl := 0) (fT v) (fR v) (fG v) H.2.1.2.2.1.2.2.1)
    · refine key (nI (ndS (wU W) (wG W))) (m_168_4 (d := d + 63) (sl := 0) (W_mR (M := mBk Ks) (m_23 (d := d + 60) (sl := 0) H.1.2.1.1.2.2 H.1.2.1.2.1 (fun i g hg => (H.2.2.1.1.2.1 i g hg).2.2.2)) hM)) (fun v => m_288_4 (d := d + 64) (fT v) (fR v) (fG v) (m_194 (d := d + 64) ?_))
      exact NDM_I (LI_0 (LI_J (v := v) H)).2.1.1
    · exact key (ck (xIn (wX W))) (m_168_5 (d := d + 64) (sl := 0) H.1.2.2.2.1.1) (fun v => m_288_5 (d := d + 64) (sl := 0) (fT v) (fR v) (fG v) H.2.1.2.2.1.1)
    · exact key (nI n) (m_168_6 (d := d + 64) (sl := 0) H.2.2.2.1.1.1) (fun v => m_288_6 (d := d + 64) (sl := 0) (fT v) (fR v) (fG v) H.2.2.2.1.2.1)
end LWO
