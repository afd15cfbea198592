
/-! THE LAW: value, rule, trigger, broken -/
section LWV
variable {L : Nat} {xs : Nat → Int32} {B : Nat → Nat} {n m d sl i b : Nat} {C : co_T} {t : ab_H} {Ks : List Nat} {W : wo_T} {an : Nat → Int32} {P : Option Value → ab_H → Nat → Prop} {X : Nat → ab_H → Nat → Prop} {x : Int32} {a v : Int64} {M : Nat → Bool} {vv1 : Option Value} {mm : Nat}
set_option maxRecDepth 100000 in
theorem W_mA {c : ab_C} {pc : Nat} {y : mc_T} {al : List (Nat × Value)} {st : List Value} (w : Wd L xs d y (pc, al, st, MH C (msk M t), sl) (Rt vv1 (MH C (msk M t ++ [c])) mm) nX) (hM : ∀ j, M j = true → j < t.length) : Wd L xs d y (pc, al, st, MH C t, sl) (Rt vv1 (MH C (t ++ [c])) mm) nX := by
  refine Wd_q (W_mk (Q := fun v' C1 t1 m' => vv1 = v' ∧ C = C1 ∧ t1 = msk M t ++ [c] ∧ mm = m') (QX := fun _ _ _ _ => False) w hM (fun v h m e => ?_) (fun _ _ _ e => e.elim)) (fun v h m e => ?_) (fun _ _ _ e => ?_)
  · obtain ⟨rfl, rfl, rfl⟩ := e
    exact ⟨_, _, rfl, rfl, rfl, rfl, rfl⟩
  · obtain ⟨C1, u', rfl, ⟨rfl, rfl, e, rfl⟩, f⟩ := e
    obtain ⟨u1, e1, e2⟩ := msk_sp (N := t.length) hM (by rw [msk_l]; omega) e
    have hl : u1.length = t.length := by
      have := congrArg List.length e2
      rwa [msk_l, msk_l] at this
    have f1 : frVm M t u1 := fun j hj => by
      have h1 := hM j hj
      refine ⟨by omega, ?_⟩
      have := (f j hj).2
      rw [e1, List.getElem?_append_left (by omega)] at this
      exact this
    refine ⟨rfl, ?_, rfl⟩
    rw [e1, msk_u e2 f1]
  · obtain ⟨_, _, _, e, _⟩ := e
    exact e.elim
set_option maxRecDepth 100000 in
theorem i_m1 {z : Int32} (h : z ≠ -1) : z.toInt ≠ -1 := fun e => h (Int32.toInt_inj.mp (e.trans (by decide)))
set_option maxRecDepth 100000 in
theorem la_6 (hi : i + 4 ≤ L) (hL : L < 2147483648) (H : LI C t Ks W B n an) (kk : LC L xs (d + 66) i P X t n sl) : Wd L xs (d + 66) y_296 (488, al4 i, [], MH C t, sl) P X := by
  rcases tb_no H (xs (i + 1)) with ⟨b, hb, hx, hz⟩ | ⟨h1, h2⟩
  · obtain ⟨t1, t2, t3, t4⟩ := H.2.1.1.1.1 b hb hz
    have hw := (H.1.2.1.1.1.2 b hb).1
    have h6 := (H.1.2.1.1.1.2 b hb).2.1
    obtain ⟨_, kn, k40, kr⟩ := H.1.2.2.1.1 b hb
    obtain ⟨_, mn, m40, mr⟩ := H.2.1.2.1.1 b hb
    rcases i_sp (wR W b).1.length (by omega) (xs (i + 2)) with h | ⟨y, hy, hxy⟩
    · refine ob_6B (d := d + 65) (r := 0) (ci := 14) (k := 1) hi hL H kk (by omega) (by omega) (m_176_14 (d := d + 64) (sl := 0) ?_) ?_
      · rw [hx]; exact m_177r (d := d + 58) (sl := 0) hb (tb_33 H hb hz) kn k40 h
      · rw [hx]; exact m_291r (d := d + 64) (sl := 0) hb t1 mn m40 h
    · obtain ⟨r, hr⟩ : ∃ r, (wR W b).1[y]? = some r := ⟨_, List.getElem?_eq_getElem hy⟩
      by_cases hz1 : xs (i + 3) = -1
      · refine ob_6A (d := d + 65) (r := r.1.toInt64) hi hL H kk (m_176 (d := d + 64) (sl := 0) ?_) ?_
        · rw [hx, hxy, hz1, ← (kr y r hr).1]
          exact m_177i (d := d + 62) (sl := 0) hb (tb_33 H hb hz) kn k40 hy
        · rw [hx, hxy, hz1]
          have e : (sJ C 140 0 r.1.toInt64).1 115 (40 * b + y) = r.1 := by rw [Nat.mul_comm 40 b]; exact (mr y r hr).1
          have w := m_291i (L := L) (xs := xs) (C := sJ C 140 0 r.1.toInt64) (t := t) (d := d + 64) (sl := 0) hb t1 mn m40 hy t3.2.1 h6
          rw [e] at w
          exact w
      · rcases i_sp ((wT W).1.2.1 b) (by omega) (xs (i + 3)) with h | ⟨c, hc, hxc⟩
        · refine ob_6B (d := d + 65) (r := 0) (ci := 14) (k := 1) hi hL H kk (by omega) (by omega) (m_176_14 (d := d + 64) (sl := 0) ?_) ?_
          · rw [hx, hxy]
            exact m_177o (d := d + 58) (sl := 0) hb (tb_33 H hb hz) kn k40 hy hz1 (m_47x (d := d + 63) (sl := 0) hb hw h6 h)
          · rw [hx, hxy]
            exact m_291c (d := d + 64) (sl := 0) hb t1 mn m40 hy t3.2.1 h6 (by have := i_m1 hz1; omega)
        · refine ob_6A (d := d + 65) (r := e_V (r.2 c)) hi hL H kk (m_176 (d := d + 64) (sl := 0) ?_) ?_
          · rw [hx, hxy, hxc, ← (kr y r hr).2 c hc]
            exact m_177c (d := d + 62) (sl := 0) hb (tb_33 H hb hz) kn k40 hy (by omega) (m_47 (d := d + 63) (sl := 0) hb hw h6 hc)
          · rw [hx, hxy, hxc]
            have e : (sJ C 140 0 (e_V (r.2 c))).2.1 116 ((b * 40 + y) * 6 + c) = e_V (r.2 c) := (mr y r hr).2 c hc
            have w := m_291v (L := L) (xs := xs) (C := sJ C 140 0 (e_V (r.2 c))) (t := t) (d := d + 64) (sl := 0) hb t1 mn m40 hy t3.2.1 h6 hc
            rw [e] at w
            exact w
  · refine ob_6B (d := d + 65) (r := 0) (ci := 14) (k := 1) hi hL H kk (by omega) (by omega) (m_176_14 (d := d + 64) (sl := 0) (m_177n (d := d + 58) (sl := 0) (m_33f h1))) ?_
    rcases h2 with h | ⟨b, hb, hx, hf⟩
    · exact m_291o (d := d + 64) (sl := 0) h
    · rw [hx]; exact m_291n (d := d + 64) (sl := 0) hb hf
/-! a rule that is there, or isn't -/
set_option maxRecDepth 100000 in
theorem ru_no (H : LI C t Ks W B n an) (x : Int32) : (∃ j u k, j < 24 ∧ x = nI j ∧ wU W j = some u ∧ C.2.2 11 j = some (241 + k) ∧ RUK (msk (mBk Ks) t) k u ∧ RUM C j u ∧ C.1 83 j = 1) ∨ ((∀ d, Wd L xs d y_96 (0, [(0, .ref 106), (1, .int x)], [], MH C t, 0) (Rt (some .null) (MH C t) 0) nX) ∧ (¬ (0 ≤ x.toInt ∧ x.toInt < 24) ∨ ∃ j, j < 24 ∧ x = nI j ∧ C.1 83 j = 0)) := by
  rcases i_sp 24 (by omega) x with h | ⟨j, hj, hx⟩
  · exact Or.inr ⟨fun d => m_96_o h, Or.inl h⟩
  · have hk := H.1.2.1.1.2.2 j hj
    cases e : wU W j with
    | none =>
      rw [show (wT W).2.2 j = none from e] at hk
      refine Or.inr ⟨fun d => ?_, Or.inr ⟨j, hj, hx, ?_⟩⟩
      · rw [hx]; exact m_96_n hj hk
      · rcases H.2.1.1.1.2.2.1 j hj with ⟨_, e2⟩ | ⟨u, e1, _⟩
        · exact e2
        · rw [show (wT W).2.2 j = none from e] at e1; cases e1
    | some u =>
      rw [show (wT W).2.2 j = some u from e] at hk
      obtain ⟨k, e1, U⟩ := hk
      rcases H.2.1.1.1.2.2.1 j hj with ⟨e2, _⟩ | ⟨u', e2, U2, _, e4⟩
      · rw [show (wT W).2.2 j = some u from e] at e2; cases e2
      · rw [show (wT W).2.2 j = some u from e] at e2
        injection e2 with e2
        rw [← e2] at U2
        exact Or.inl ⟨j, u, k, hj, hx, e, e1, U, U2, e4⟩
set_option maxRecDepth 100000 in
theorem la_7 (hi : i + 4 ≤ L) (hL : L < 2147483648) (H : LI C t Ks W B n an) (kk : LC L xs (d + 66) i P X t n sl) : Wd L xs (d + 66) y_296 (567, al4 i, [], MH C t, sl) P X := by
  have hM : ∀ j, mBk Ks j = true → j < t.length := bkO_h H.1.1
  rcases ru_no (L := L) (xs := xs) H (xs (i + 1)) with ⟨j, u, k, hj, hx, hu, e1, U, U2, e4⟩ | ⟨h1, h2⟩
  · have h6 : (rCs u).length ≤ 6 := (H.2.2.1.1.1.2 j u hu).1.1.2.2.1
    have U3 : ∀ v : Int64, RUM (sJ C 140 0 v) j u := fun v => U2
    rcases i_sp 8 (by omega) (xs (i + 2)) with h | ⟨y, hy, hxy⟩
    · refine ob_7B (d := d + 65) (r := 0) (ci := 13) (k := 2) hi hL H kk (by omega) (by omega) (W_mA (M := mBk Ks) (m_178_13 (d := d + 64) (sl := 0) ?_) hM) ?_
      · rw [hx]; exact m_179x (d := d + 58) (sl := 0) hj e1 U h6 (by omega)
      · rw [hx]; exact m_292x (d := d + 64) (sl := 0) hj e4 (by omega)
    · have key : ∀ r : Int32, Wd L xs (d + 64) y_179 (0, [(0, .ref 100), (1, .int (nI j)), (2, .int (nI y))], [], MH C (msk (mBk Ks) t), 0) (Rt (some (.int r)) (MH C (msk (mBk Ks) t)) 0) nX → (∀ v, Wd L xs (d + 65) y_292 (0, [(0, .ref 176), (1, .int (nI j)), (2, .int (nI y))], [], MH (sJ C 140 0 v) t, 0) (Rt (some (.int r)) (MH (sI (sJ C 140 0 v) 76 0 0) t) 0) nX) → Wd L xs (d + 66) y_296 (567, al4 i, [], MH C t, sl) P X := fun r w1 w2 => ob_7A (d := d + 65) (r := r) hi hL H kk (by rw [hx, hxy]; exact W_mR (M := mBk Ks) (m_178 (d := d + 64) (sl := 0) w1) hM) (by rw [hx, hxy]; exact w2 _)
      have hc : y = 0 ∨ y = 1 ∨ y = 2 ∨ y = 3 ∨ y = 4 ∨ y = 5 ∨ y = 6 ∨ y = 7 := by omega
      rcases hc with rfl | rfl | rfl | rfl | rfl | rfl | rfl | rfl
      · exact key _ (m_179_0 (d := d + 63) (sl := 0) hj e1 U h6) (fun v => m_292_0 (d := d + 64) (sl := 0) hj e4 (U3 v) h6)
      · exact key _ (m_179_1 (d := d + 63) (sl := 0) hj e1 U h6) (fun v => m_292_1 (d := d + 64) (sl := 0) hj e4 (U3 v) h6)
      · exact key _ (m_179_2 (d := d + 63) (sl := 0) hj e1 U h6) (fun v => m_292_2 (d := d + 64) (sl := 0) hj e4 (U3 v) h6)
      · exact key _ (m_179_3 (d := d + 63) (sl := 0) hj e1 U h6) (fun v => m_292_3 (d := d + 64) (sl := 0) hj e4 (U3 v) h6)
      · exact key _ (m_179_4 (d := d + 63) (sl := 0) hj e1 U h6) (fun v => m_292_4 (d := d + 64) (sl := 0) hj e4 (U3 v) h6)
      · refine key (ck (xWt (wX W) j)) ?_ (fun v => m_292_5 (d := d + 64) (sl := 0) hj e4 (U3 v) h6 (H.2.1.2.2.1.2.1.2 j hj (by rw [hu]; intro z; cases z)))
        have w := m_179_5 (L := L) (xs := xs) (d := d + 63) (sl := 0) hj e1 U h6
        rw [btI_01 _ _ (by omega), H.1.2.2.2.1.2.1 j hj] at w
        have e5 : (if xWt (wX W) j = true then (1 : Int32) else 0) = ck (xWt (wX W) j) := by cases xWt (wX W) j <;> rfl
        rw [e5] at w
        exact w
      · exact key _ (m_179_6 (d := d + 63) (sl := 0) hj e1 U h6) (fun v => m_292_6 (d := d + 64) (sl := 0) hj e4 (U3 v) h6)
      · exact key _ (m_179_7 (d := d + 63) (sl := 0) hj e1 U h6) (fun v => m_292_7 (d := d + 64) (sl := 0) hj e4 (U3 v) h6)
  · refine ob_7B (d := d + 65) (r := 0) (ci := 14) (k := 1) hi hL H kk (by omega) (by omega) (m_178_14 (d := d + 64) (sl := 0) (m_179n (d := d + 58) (sl := 0) (h1 _))) ?_
    rcases h2 with h | ⟨j, hj, hx, hf⟩
    · exact m_292o (d := d + 64) (sl := 0) h
    · rw [hx]; exact m_292n (d := d + 64) (sl := 0) hj hf
/-! a trigger that is there, or isn't -/
set_option maxRecDepth 100000 in
theorem tg_no (H : LI C t Ks W B n an) (x : Int32) : (∃ j g k, j < 8 ∧ x = nI j ∧ wG W j = some g ∧ C.2.2 12 j = some (241 + k) ∧ TRn (msk (mBk Ks) t) k g ∧ TRM C j g ∧ C.1 95 j = 1) ∨ ((∀ d, Wd L xs d y_123 (0, [(0, .ref 106), (1, .int x)], [], MH C t, 0) (Rt (some .null) (MH C t) 0) nX) ∧ (¬ (0 ≤ x.toInt ∧ x.toInt < 8) ∨ ∃ j, j < 8 ∧ x = nI j ∧ C.1 95 j = 0)) := by
  rcases i_sp 8 (by omega) x with h | ⟨j, hj, hx⟩
  · exact Or.inr ⟨fun d => m_123_o h, Or.inl h⟩
  · have hk := H.1.2.1.2.1 j hj
    have hm := H.2.1.1.2.1 j hj
    cases e : wG W j with
    | none =>
      rw [e] at hk hm
      refine Or.inr ⟨fun d => ?_, Or.inr ⟨j, hj, hx, hm⟩⟩
      rw [hx]; exact m_123_n hj hk
    | some g =>
      rw [e] at hk hm
      obtain ⟨k, e1, U⟩ := hk
      exact Or.inl ⟨j, g, k, hj, hx, e, e1, U, hm.2, hm.1⟩
set_option maxRecDepth 100000 in
theorem la_8 (hi : i + 4 ≤ L) (hL : L < 2147483648) (H : LI C t Ks W B n an) (kk : LC L xs (d + 66) i P X t n sl) : Wd L xs (d + 66) y_296 (635, al4 i, [], MH C t, sl) P X := by
  have hM : ∀ j, mBk Ks j = true → j < t.length := bkO_h H.1.1
  rcases tg_no (L := L) (xs := xs) H (xs (i + 1)) with ⟨j, g, k, hj, hx, hu, e1, U, U2, e4⟩ | ⟨h1, h2⟩
  · have U1 := TRn_K U
    have U3 : ∀ v : Int64, TRM (sJ C 140 0 v) j g := fun v => by
      have h := (LI_J (v := v) H).2.1.1.2.1 j hj
      rw [hu] at h
      exact h.2
    rcases i_sp 6 (by omega) (xs (i + 2)) with h | ⟨y, hy, hxy⟩
    · refine ob_8B (d := d + 65) (r := 0) (ci := 13) (k := 2) hi hL H kk (by omega) (by omega) (W_mA (M := mBk Ks) (m_181_13 (d := d + 64) (sl := 0) ?_) hM) ?_
      · rw [hx]; exact m_182x (d := d + 58) (sl := 0) hj e1 U1 (by omega)
      · rw [hx]; exact m_293x (d := d + 64) (sl := 0) hj e4 (by omega)
    · have key : ∀ r : Int64, Wd L xs (d + 64) y_182 (0, [(0, .ref 100), (1, .int (nI j)), (2, .int (nI y))], [], MH C (msk (mBk Ks) t), 0) (Rt (some (.long r)) (MH C (msk (mBk Ks) t)) 0) nX → (∀ v, Wd L xs (d + 65) y_293 (0, [(0, .ref 176), (1, .int (nI j)), (2, .int (nI y))], [], MH (sJ C 140 0 v) t, 0) (Rt (some (.long r)) (MH (sI (sJ C 140 0 v) 76 0 0) t) 0) nX) → Wd L xs (d + 66) y_296 (635, al4 i, [], MH C t, sl) P X := fun r w1 w2 => ob_8A (d := d + 65) (r := r) hi hL H kk (by rw [hx, hxy]; exact W_mR (M := mBk Ks) (m_181 (d := d + 64) (sl := 0) w1) hM) (by rw [hx, hxy]; exact w2 _)
      have hc : y = 0 ∨ y = 1 ∨ y = 2 ∨ y = 3 ∨ y = 4 ∨ y = 5 := by omega
      rcases hc with rfl | rfl | rfl | rfl | rfl | rfl
      · exact key _ (m_182_0 (d := d + 63) (sl := 0) hj e1 U1) (fun v => m_293_0 (d := d + 64) (sl := 0) hj e4 (U3 v))
      · exact key _ (m_182_1 (d := d + 63) (sl := 0) hj e1 U1) (fun v => m_293_1 (d := d + 64) (sl := 0) hj e4 (U3 v))
      · exact key _ (m_182_2 (d := d + 63) (sl := 0) hj e1 U1) (fun v => m_293_2 (d := d + 64) (sl := 0) hj e4 (U3 v))
      · exact key _ (m_182_3 (d := d + 63) (sl := 0) hj e1 U1) (fun v => m_293_3 (d := d + 64) (sl := 0) hj e4 (U3 v))
      · exact key _ (m_182_4 (d := d + 63) (sl := 0) hj e1 U1) (fun v => m_293_4 (d := d + 64) (sl := 0) hj e4 (U3 v))
      · exact key _ (m_182_5 (d := d + 63) (sl := 0) hj e1 U1) (fun v => m_293_5 (d := d + 64) (sl := 0) hj e4 (U3 v))
  · refine ob_8B (d := d + 65) (r := 0) (ci := 14) (k := 1) hi hL H kk (by omega) (by omega) (m_181_14 (d := d + 64) (sl := 0) (m_182n (d := d + 58) (sl := 0) (h1 _))) ?_
    rcases h2 with h | ⟨j, hj, hx, hf⟩
    · exact m_293o (d := d + 64) (sl := 0) h
    · rw [hx]; exact m_293n (d := d + 64) (sl := 0) hj hf
/-! the first row that breaks a rule -/
set_option maxRecDepth 100000 in
theorem la_9 (hi : i + 4 ≤ L) (hL : L < 2147483648) (H : LI C t Ks W B n an) (kk : LC L xs (d + 66) i P X t n sl) : Wd L xs (d + 66) y_296 (702, al4 i, [], MH C t, sl) P X := by
  have hM : ∀ j, mBk Ks j = true → j < t.length := bkO_h H.1.1
  rcases ru_no (L := L) (xs := xs) H (xs (i + 1)) with ⟨j, u, k, hj, hx, hu, e1, U, U2, e4⟩ | ⟨h1, h2⟩
  · have hR : okR (wW W) u := (H.2.2.1.1.1.2 j u hu).1
    obtain ⟨kc, kt, fc, ft, vc, ⟨g1, _⟩, _⟩ := id U
    have w0 := m_184s (L := L) (xs := xs) (d := d + 63) (sl := 0) (P := FB C (msk (mBk Ks) t) 0 (fbk u (wR W))) hj e1 g1 (m_146 (d := d + 59) (sl := 0) H.1.2.2.1.1 hR U) (fun v h q hq => ⟨_, hq.1, hq.1, hq.2.1, by have := hq.2.2; omega⟩)
    have w1 : Wd L xs (d + 64) y_184 (0, [(0, .ref 100), (1, .int (nI j))], [], MH C t, 0) (fun v h q => some (.int (fbk u (wR W))) = v ∧ (∃ t', (stk (msk (mBk Ks) t) (msk (mBk Ks) t') ∧ frVm (mBk Ks) t t') ∧ MH C t' = h) ∧ 0 = q) nX := by
      refine Wd_q (W_mk (Q := fun v' C1 t1 m' => some (.int (fbk u (wR W))) = v' ∧ C = C1 ∧ stk (msk (mBk Ks) t) t1 ∧ 0 = m') (QX := fun _ _ _ _ => False) w0 hM (fun v h m e => ?_) (fun _ _ _ e => e.elim)) (fun v h m e => ?_) (fun _ _ _ e => ?_)
      · obtain ⟨rfl, ⟨t', h1, rfl⟩, rfl⟩ := e
        exact ⟨_, _, rfl, rfl, rfl, h1, rfl⟩
      · obtain ⟨C1, u', rfl, ⟨rfl, rfl, h1, rfl⟩, f⟩ := e
        exact ⟨rfl, ⟨u', ⟨h1, f⟩, rfl⟩, rfl⟩
      · obtain ⟨_, _, _, e, _⟩ := e
        exact e.elim
    refine lw_9 (d := d + 65) hi hL (by rw [hx]; exact m_183 (d := d + 64) (sl := 0) w1) (fun v h q hq => ?_)
    obtain ⟨rfl, ⟨t', ⟨hs, fv⟩, rfl⟩, rfl⟩ := hq
    have hl : t'.length = t.length := by
      have := hs.1
      rwa [msk_l, msk_l] at this
    have H1 : LI C t' Ks W B n an := LI_g (C := C) (fun _ _ _ => rfl) (fun _ _ _ _ => rfl) rfl (tlK_k hs) fv H
    have H2 := LI_0 (x := 0) (LI_J (v := (fbk u (wR W)).toInt64) H1)
    obtain ⟨z, hz⟩ := H2.2.1.2.2.2.2
    have U4 : RUM (sI (sJ C 140 0 (fbk u (wR W)).toInt64) 76 0 0) j u := by
      rcases H2.2.1.1.1.2.2.1 j hj with ⟨e2, _⟩ | ⟨u', e2, U2, _, e4⟩
      · rw [show (wT W).2.2 j = some u from hu] at e2; cases e2
      · rw [show (wT W).2.2 j = some u from hu] at e2
        cases e2
        exact U2
    refine ⟨0, sJ C 140 0 (fbk u (wR W)).toInt64, t', rfl, rfl, by omega, BM (sI (sJ C 140 0 (fbk u (wR W)).toInt64) 76 0 0) t' 0 (fbk u (wR W)), ?_, fun v2 h2 q2 hq2 => ?_⟩
    · rw [hx]
      exact m_294 (d := d + 63) (sl := 0) hj e4 (m_274 (d := d + 59) (sl := 0) H2.2.1.2.1.1 U4 hj hR hz) (fun v h q hq => ⟨_, hq.1, hq.1, hq.2.1, by have := hq.2.2; omega⟩)
    · obtain ⟨rfl, ⟨C', ⟨f1, f2⟩, rfl⟩, rfl⟩ := hq2
      refine ⟨fbk u (wR W), C', t', rfl, rfl, f1.1 76 0 (by omega), fun _ => f1.2.1 140 0 (by omega), kk C' t' Ks W B n an _ ?_ (by omega) (by omega)⟩
      refine LI_g (fun k j h => ?_) (fun k j h1 h2 => f1.2.1 k j (by omega)) f1.2.2 (tlK_e tlE_r) (fv_r H2.1) H2
      by_cases h74 : k = 76 ∧ j = 74
      · rw [h74.1, h74.2]; exact f2
      · exact f1.1 k j (by omega)
  · refine ob_9B (d := d + 65) (r := 0) (ci := 14) (k := 1) hi hL H kk (by omega) (by omega) (m_183_14 (d := d + 64) (sl := 0) (m_184n (d := d + 58) (sl := 0) (h1 _))) ?_
    rcases h2 with h | ⟨j, hj, hx, hf⟩
    · exact m_294o (d := d + 64) (sl := 0) h
    · rw [hx]; exact m_294n (d := d + 64) (sl := 0) hj hf
end LWV
