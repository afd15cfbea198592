/-! THE OTHER SIDE'S FORMULAS, 14: the pieces of readTest -/
section MTE
variable {L : Nat} {xs : Nat → Int32} {t : ab_H} {d n p b wb e f : Nat} {B : Nat → Nat} {C0 C : co_T} {s x y z : fs_T} {V W : List (Int32 × Int64)} {c : Int32} {i : Nat} {x0 : Nat × Int64} {R : List (Nat × Int64)} {P : Option Value → ab_H → Nat → Prop} {X : Nat → ab_H → Nat → Prop}
set_option maxRecDepth 100000 in
theorem sb_t {a b c v : Value} : sba [(1, a), (0, b)] [(2, c), (3, v), (1, a), (0, b)] := by
  refine ⟨fun q hq => ?_, ?_⟩
  · simp only [List.mem_cons, List.not_mem_nil, or_false] at hq ⊢
    rcases hq with rfl | rfl <;> simp
  · unfold wfa
    simp
set_option maxRecDepth 100000 in
theorem t9F {a : Int32} (F : FM B n C0 C p b wb f c i) (H : Wd L xs d y_223 (245, [(0, .ref 176)], [], MH C t, 0) P X) : Wd L xs d y_223 (9, [(1, .int a), (0, .ref 176)], [], MH C t, 0) P X := by
  have h0 : C.1 76 8 ≠ 0 := by rw [F.1.2.1]; exact F.1.1
  refine w_p (pc1 := 10) rfl rfl ?_
  refine w_b (a := 245) (b := 13) rfl rfl (fun c10 => ?_) (fun c10 => ?_)
  · replace c10 := cc_eq_t c10
    exact Wd_al (sb_0 (by simp) (by unfold wfa; simp)) H
  · replace c10 := cc_eq_f c10
    refine w_p (pc1 := 14) rfl rfl ?_
    refine w_m0 (pc1 := 17) rfl rfl (h_gI (j := 8) rfl rfl rfl rfl rfl) rfl ?_
    refine w_t (a := 245) (b := 20) (cb_ne_t (by exact h0)) rfl rfl ?_
    exact Wd_al (sb_0 (by simp) (by unfold wfa; simp)) H
set_option maxRecDepth 100000 in
theorem t83F (F : FM B n C0 C p b wb f c i) (H : Wd L xs d y_223 (245, [(0, .ref 176)], [], MH C t, 0) P X) : Wd L xs d y_223 (83, [(2, .int 1), (1, .int 1), (0, .ref 176)], [], MH C t, 0) P X := by
  have h0 : C.1 76 8 ≠ 0 := by rw [F.1.2.1]; exact F.1.1
  refine w_p (pc1 := 84) rfl rfl ?_
  refine w_f (a := 242) (b := 87) rfl rfl rfl ?_
  refine w_p (pc1 := 88) rfl rfl ?_
  refine w_m0 (pc1 := 91) rfl rfl (h_gI (j := 8) rfl rfl rfl rfl rfl) rfl ?_
  refine w_t (a := 242) (b := 94) (cb_ne_t (by exact h0)) rfl rfl ?_
  refine w_p (pc1 := 9) rfl rfl ?_
  refine w_p (pc1 := 10) rfl rfl ?_
  refine w_f (a := 245) (b := 13) rfl rfl rfl ?_
  refine w_p (pc1 := 14) rfl rfl ?_
  refine w_m0 (pc1 := 17) rfl rfl (h_gI (j := 8) rfl rfl rfl rfl rfl) rfl ?_
  refine w_t (a := 245) (b := 20) (cb_ne_t (by exact h0)) rfl rfl ?_
  exact Wd_al (sb_0 (by simp) (by unfold wfa; simp)) H
set_option maxRecDepth 100000 in
theorem t81F (F : FM B n C0 C p b wb f c i) (H : Wd L xs d y_223 (245, [(0, .ref 176)], [], MH C t, 0) P X) : Wd L xs d y_223 (81, [(1, .int 1), (0, .ref 176)], [], MH C t, 0) P X := by
  refine w_p (pc1 := 82) (st1 := .int 1 :: _) rfl rfl ?_
  refine w_p (pc1 := 83) (al1 := [(2, .int 1), (1, .int 1), (0, .ref 176)]) rfl rfl ?_
  exact t83F F H
set_option maxRecDepth 100000 in
theorem t83M (h0 : stX 4 x0) (h10 : x0.1 ≤ 10) (hR : ∀ x, x ∈ R → okX 4 x) (hc : c34 R ≤ s.2.2.1) (M : MK B n C0 C p b wb (e + 1) s (V ++ [enX x0] ++ (R.map enX).reverse)) (H : ∀ C', MK B n C0 C' p b wb (e + 1) (R.foldl (fun s x => dn x s) s) (V ++ [enX x0]) → Wd L xs (d + 3) y_223 (99, [(2, .int 1), (1, .int 1), (0, .ref 176)], [], MH C' t, 0) P X) : Wd L xs (d + 3) y_223 (83, [(2, .int 1), (1, .int 1), (0, .ref 176)], [], MH C t, 0) P X := by
  refine w_p (pc1 := 84) rfl rfl ?_
  refine w_f (a := 242) (b := 87) rfl rfl rfl ?_
  refine w_p (pc1 := 88) rfl rfl ?_
  refine w_m0 (pc1 := 91) (st1 := .int 0 :: _) rfl rfl (h_gIe (j := 8) rfl rfl rfl rfl rfl (M.2.1.2.1)) rfl ?_
  refine w_f (a := 242) (b := 94) rfl rfl rfl ?_
  refine w_p (pc1 := 95) rfl rfl ?_
  refine w_p (pc1 := 96) (st1 := .int 4 :: _) rfl rfl ?_
  refine w_ji (pc1 := 99) (vs := [.ref 176, .int 4]) (rest := []) (dTo (h := 4) (d := _) (by decide) h0 h10 R s C hR hc M) rfl rfl rfl (fun _ _ => rfl) rfl (by exact cl_v my_232 rfl rfl rfl (Nat.le_of_ble_eq_true rfl) rfl (MH_obj rfl rfl) rfl (by decide) rfl rfl) (by rfl) (Nat.le_of_ble_eq_true rfl) (Nat.le_of_ble_eq_true rfl) rfl (fun v h1 d1 hq => ?_) (fun _ _ _ e => e.elim)
  rcases hq with ⟨hv, ⟨C1, M1, hh⟩, hn⟩
  · subst hv; subst hh; subst hn
    exact H _ M1
set_option maxRecDepth 100000 in
theorem t81M (h0 : stX 4 x0) (h10 : x0.1 ≤ 10) (hR : ∀ x, x ∈ R → okX 4 x) (hc : c34 R ≤ s.2.2.1) (M : MK B n C0 C p b wb (e + 1) s (V ++ [enX x0] ++ (R.map enX).reverse)) (H : ∀ C', MK B n C0 C' p b wb (e + 1) (R.foldl (fun s x => dn x s) s) (V ++ [enX x0]) → Wd L xs (d + 3) y_223 (99, [(2, .int 1), (1, .int 1), (0, .ref 176)], [], MH C' t, 0) P X) : Wd L xs (d + 3) y_223 (81, [(1, .int 1), (0, .ref 176)], [], MH C t, 0) P X := by
  refine w_p (pc1 := 82) (st1 := .int 1 :: _) rfl rfl ?_
  refine w_p (pc1 := 83) (al1 := [(2, .int 1), (1, .int 1), (0, .ref 176)]) rfl rfl ?_
  exact t83M h0 h10 hR hc M H
set_option maxRecDepth 100000 in
theorem t9 {Q : Option Value → ab_H → Nat → Prop} (M : MK B n C0 C p b wb e s W) (h25 : kd B n s.1 ≠ 25) (h46 : kd B n s.1 ≠ 46) (hF : Wd L xs (d + 8) y_227 (0, [(0, .ref 176)], [], MH C t, 0) Q nX) (H : ∀ v h m, Q v h m → Wd L xs (d + 9) y_223 (81, [(1, .int 1), (0, .ref 176)], v.toList ++ [], h, 0 + m) P X) : Wd L xs (d + 9) y_223 (9, [(1, .int 1), (0, .ref 176)], [], MH C t, 0) P X := by
  refine w_p (pc1 := 10) rfl rfl ?_
  refine w_f (a := 245) (b := 13) rfl rfl rfl ?_
  refine w_p (pc1 := 14) rfl rfl ?_
  refine w_m0 (pc1 := 17) (st1 := .int 0 :: _) rfl rfl (h_gIe (j := 8) rfl rfl rfl rfl rfl (M.2.1.2.1)) rfl ?_
  refine w_f (a := 245) (b := 20) rfl rfl rfl ?_
  refine w_p (pc1 := 21) rfl rfl ?_
  refine w_m0 (pc1 := 24) (st1 := .long 7237492 :: _) rfl rfl rfl rfl ?_
  refine w_je (pc1 := 27) (vs := [.ref 176, .long 7237492]) (rest := []) (st1 := [.int 0]) (m_205f (d := _) (sl := 0) ((wd_k (k := 25) M.2.1 (by decide) (by decide)).trans (decide_eq_false h25))) rfl rfl rfl (fun _ _ => rfl) rfl (by exact cl_v my_205 rfl rfl rfl (Nat.le_of_ble_eq_true rfl) rfl (MH_obj rfl rfl) rfl (by decide) rfl rfl) (by rfl) (Nat.le_of_ble_eq_true rfl) (Nat.le_of_ble_eq_true rfl) rfl (by rfl) ?_
  refine w_t (a := 51) (b := 30) rfl rfl rfl ?_
  refine w_p (pc1 := 52) rfl rfl ?_
  refine w_p (pc1 := 54) (st1 := .int 91 :: _) rfl rfl ?_
  refine w_je (pc1 := 57) (vs := [.ref 176, .int 91]) (rest := []) (st1 := [.int 0]) (m_210f (d := _) (sl := 0) (c := 91) ((sg_k (k := 46) M.2.1 (by decide) (by decide)).trans (decide_eq_false h46))) rfl rfl rfl (fun _ _ => rfl) rfl (by exact cl_v my_210 rfl rfl rfl (Nat.le_of_ble_eq_true rfl) rfl (MH_obj rfl rfl) rfl (by decide) rfl rfl) (by rfl) (Nat.le_of_ble_eq_true rfl) (Nat.le_of_ble_eq_true rfl) rfl (by rfl) ?_
  refine w_t (a := 77) (b := 60) rfl rfl rfl ?_
  refine w_p (pc1 := 78) rfl rfl ?_
  refine w_ji (pc1 := 81) (vs := [.ref 176]) (rest := []) (hF) rfl rfl rfl (fun _ _ => rfl) rfl (by exact cl_v my_227 rfl rfl rfl (Nat.le_of_ble_eq_true rfl) rfl (MH_obj rfl rfl) rfl (by decide) rfl rfl) (by rfl) (Nat.le_of_ble_eq_true rfl) (Nat.le_of_ble_eq_true rfl) rfl (fun v h m hq => H v h m hq) (fun _ _ _ e => e.elim)
set_option maxRecDepth 100000 in
theorem t9n1 (hk : kd B n s.1 = 25) (M : MK B n C0 C p b wb (e + 1) s W) (he : e < 11) (h1 : gin s = .inl (c, i)) (H : ∀ C', FM B n C0 C' p b wb 2 c i → Wd L xs (d + 4) y_223 (9, [(1, .int 1), (0, .ref 176)], [], MH C' t, 0) P X) : Wd L xs (d + 4) y_223 (9, [(1, .int 1), (0, .ref 176)], [], MH C t, 0) P X := by
  obtain ⟨rfl, rfl⟩ := gin_i h1
  refine w_p (pc1 := 10) rfl rfl ?_
  refine w_f (a := 245) (b := 13) rfl rfl rfl ?_
  refine w_p (pc1 := 14) rfl rfl ?_
  refine w_m0 (pc1 := 17) (st1 := .int 0 :: _) rfl rfl (h_gIe (j := 8) rfl rfl rfl rfl rfl (M.2.1.2.1)) rfl ?_
  refine w_f (a := 245) (b := 20) rfl rfl rfl ?_
  refine w_p (pc1 := 21) rfl rfl ?_
  refine w_m0 (pc1 := 24) (st1 := .long 7237492 :: _) rfl rfl rfl rfl ?_
  refine w_je (pc1 := 27) (vs := [.ref 176, .long 7237492]) (rest := []) (st1 := [.int 1]) (m_205t (d := _) (sl := 0) ((wd_k (k := 25) M.2.1 (by decide) (by decide)).trans (decide_eq_true hk))) rfl rfl rfl (fun _ _ => rfl) rfl (by exact cl_v my_205 rfl rfl rfl (Nat.le_of_ble_eq_true rfl) rfl (MH_obj rfl rfl) rfl (by decide) rfl rfl) (by rfl) (Nat.le_of_ble_eq_true rfl) (Nat.le_of_ble_eq_true rfl) rfl (by rfl) ?_
  refine w_f (a := 51) (b := 30) rfl rfl rfl ?_
  refine w_p (pc1 := 31) rfl rfl ?_
  refine w_ji (pc1 := 34) (vs := [.ref 176]) (rest := []) (oE (d := _) M h1) rfl rfl rfl (fun _ _ => rfl) rfl (by exact cl_v my_225 rfl rfl rfl (Nat.le_of_ble_eq_true rfl) rfl (MH_obj rfl rfl) rfl (by decide) rfl rfl) (by rfl) (Nat.le_of_ble_eq_true rfl) (Nat.le_of_ble_eq_true rfl) rfl (fun v h1 d1 hq => ?_) (fun _ _ _ e => e.elim)
  rcases hq with ⟨hv, ⟨C1, F1, hh⟩, hn⟩
  · subst hv; subst hh; subst hn
    refine w_p (pc1 := 35) rfl rfl ?_
    refine w_ji (pc1 := 38) (vs := [.ref 176]) (rest := []) (dF (d := _) F1 (by decide) (by omega)) rfl rfl rfl (fun _ _ => rfl) rfl (by exact cl_v my_226 rfl rfl rfl (Nat.le_of_ble_eq_true rfl) rfl (MH_obj rfl rfl) rfl (by decide) rfl rfl) (by rfl) (Nat.le_of_ble_eq_true rfl) (Nat.le_of_ble_eq_true rfl) rfl (fun v h1 d1 hq => ?_) (fun _ _ _ e => e.elim)
    rcases hq with ⟨hv, ⟨C2, F2, hh⟩, hn⟩
    · subst hv; subst hh; subst hn
      refine w_p (pc1 := 39) rfl rfl ?_
      refine w_p (pc1 := 40) (st1 := .int 4 :: _) rfl rfl ?_
      refine w_p (pc1 := 41) (st1 := .long 0 :: _) rfl rfl ?_
      refine w_ji (pc1 := 44) (vs := [.ref 176, .int 4, .long 0]) (rest := []) (pF (d := _) F2 (by omega)) rfl rfl rfl (fun _ _ => rfl) rfl (by exact cl_v my_224 rfl rfl rfl (Nat.le_of_ble_eq_true rfl) rfl (MH_obj rfl rfl) rfl (by decide) rfl rfl) (by rfl) (Nat.le_of_ble_eq_true rfl) (Nat.le_of_ble_eq_true rfl) rfl (fun v h1 d1 hq => ?_) (fun _ _ _ e => e.elim)
      rcases hq with ⟨hv, ⟨C3, F3, hh⟩, hn⟩
      · subst hv; subst hh; subst hn
        refine w_p (pc1 := 45) rfl rfl ?_
        refine w_ji (pc1 := 48) (vs := [.ref 176]) (rest := []) (nF (d := _) F3) rfl rfl rfl (fun _ _ => rfl) rfl (by exact cl_v my_195 rfl rfl rfl (Nat.le_of_ble_eq_true rfl) rfl (MH_obj rfl rfl) rfl (by decide) rfl rfl) (by rfl) (Nat.le_of_ble_eq_true rfl) (Nat.le_of_ble_eq_true rfl) rfl (fun v h1 d1 hq => ?_) (fun _ _ _ e => e.elim)
        rcases hq with ⟨hv, ⟨C4, F4, hh⟩, hn⟩
        · subst hv; subst hh; subst hn
          refine w_p (pc1 := 9) rfl rfl ?_
          exact H _ F4
set_option maxRecDepth 100000 in
theorem t9n2 (hk : kd B n s.1 = 25) (M : MK B n C0 C p b wb (e + 1) s W) (he : e < 11) (h1 : gin s = .inr y) (h2 : spd y = .inl (c, i)) (H : ∀ C', FM B n C0 C' p b wb 2 c i → Wd L xs (d + 4) y_223 (9, [(1, .int 1), (0, .ref 176)], [], MH C' t, 0) P X) : Wd L xs (d + 4) y_223 (9, [(1, .int 1), (0, .ref 176)], [], MH C t, 0) P X := by
  refine w_p (pc1 := 10) rfl rfl ?_
  refine w_f (a := 245) (b := 13) rfl rfl rfl ?_
  refine w_p (pc1 := 14) rfl rfl ?_
  refine w_m0 (pc1 := 17) (st1 := .int 0 :: _) rfl rfl (h_gIe (j := 8) rfl rfl rfl rfl rfl (M.2.1.2.1)) rfl ?_
  refine w_f (a := 245) (b := 20) rfl rfl rfl ?_
  refine w_p (pc1 := 21) rfl rfl ?_
  refine w_m0 (pc1 := 24) (st1 := .long 7237492 :: _) rfl rfl rfl rfl ?_
  refine w_je (pc1 := 27) (vs := [.ref 176, .long 7237492]) (rest := []) (st1 := [.int 1]) (m_205t (d := _) (sl := 0) ((wd_k (k := 25) M.2.1 (by decide) (by decide)).trans (decide_eq_true hk))) rfl rfl rfl (fun _ _ => rfl) rfl (by exact cl_v my_205 rfl rfl rfl (Nat.le_of_ble_eq_true rfl) rfl (MH_obj rfl rfl) rfl (by decide) rfl rfl) (by rfl) (Nat.le_of_ble_eq_true rfl) (Nat.le_of_ble_eq_true rfl) rfl (by rfl) ?_
  refine w_f (a := 51) (b := 30) rfl rfl rfl ?_
  refine w_p (pc1 := 31) rfl rfl ?_
  refine w_ji (pc1 := 34) (vs := [.ref 176]) (rest := []) (oM (d := _) M h1) rfl rfl rfl (fun _ _ => rfl) rfl (by exact cl_v my_225 rfl rfl rfl (Nat.le_of_ble_eq_true rfl) rfl (MH_obj rfl rfl) rfl (by decide) rfl rfl) (by rfl) (Nat.le_of_ble_eq_true rfl) (Nat.le_of_ble_eq_true rfl) rfl (fun v h1 d1 hq => ?_) (fun _ _ _ e => e.elim)
  rcases hq with ⟨hv, ⟨C1, M1, hh⟩, hn⟩
  · subst hv; subst hh; subst hn
    refine w_p (pc1 := 35) rfl rfl ?_
    refine w_ji (pc1 := 38) (vs := [.ref 176]) (rest := []) (dE (d := _) M1 h2) rfl rfl rfl (fun _ _ => rfl) rfl (by exact cl_v my_226 rfl rfl rfl (Nat.le_of_ble_eq_true rfl) rfl (MH_obj rfl rfl) rfl (by decide) rfl rfl) (by rfl) (Nat.le_of_ble_eq_true rfl) (Nat.le_of_ble_eq_true rfl) rfl (fun v h1 d1 hq => ?_) (fun _ _ _ e => e.elim)
    rcases hq with ⟨hv, ⟨C2, F2, hh⟩, hn⟩
    · subst hv; subst hh; subst hn
      refine w_p (pc1 := 39) rfl rfl ?_
      refine w_p (pc1 := 40) (st1 := .int 4 :: _) rfl rfl ?_
      refine w_p (pc1 := 41) (st1 := .long 0 :: _) rfl rfl ?_
      refine w_ji (pc1 := 44) (vs := [.ref 176, .int 4, .long 0]) (rest := []) (pF (d := _) F2 (by omega)) rfl rfl rfl (fun _ _ => rfl) rfl (by exact cl_v my_224 rfl rfl rfl (Nat.le_of_ble_eq_true rfl) rfl (MH_obj rfl rfl) rfl (by decide) rfl rfl) (by rfl) (Nat.le_of_ble_eq_true rfl) (Nat.le_of_ble_eq_true rfl) rfl (fun v h1 d1 hq => ?_) (fun _ _ _ e => e.elim)
      rcases hq with ⟨hv, ⟨C3, F3, hh⟩, hn⟩
      · subst hv; subst hh; subst hn
        refine w_p (pc1 := 45) rfl rfl ?_
        refine w_ji (pc1 := 48) (vs := [.ref 176]) (rest := []) (nF (d := _) F3) rfl rfl rfl (fun _ _ => rfl) rfl (by exact cl_v my_195 rfl rfl rfl (Nat.le_of_ble_eq_true rfl) rfl (MH_obj rfl rfl) rfl (by decide) rfl rfl) (by rfl) (Nat.le_of_ble_eq_true rfl) (Nat.le_of_ble_eq_true rfl) rfl (fun v h1 d1 hq => ?_) (fun _ _ _ e => e.elim)
        rcases hq with ⟨hv, ⟨C4, F4, hh⟩, hn⟩
        · subst hv; subst hh; subst hn
          refine w_p (pc1 := 9) rfl rfl ?_
          exact H _ F4
set_option maxRecDepth 100000 in
theorem t9n (hk : kd B n s.1 = 25) (M : MK B n C0 C p b wb (e + 1) s W) (he : e < 11) (h6 : s.1 < 600) (h1 : gin s = .inr y) (h2 : spd y = .inr x) (H : ∀ C', ((kd B n (s.1 + 1) ≠ 1 ∧ MK B n C0 C' p b wb (e + 1) (nxt x) (W ++ [(4, 0)])) ∨ (kd B n (s.1 + 1) = 1 ∧ FM B n C0 C' p b wb 0 1 (s.1 + 1))) → Wd L xs (d + 4) y_223 (9, [(1, .int 1), (0, .ref 176)], [], MH C' t, 0) P X) : Wd L xs (d + 4) y_223 (9, [(1, .int 1), (0, .ref 176)], [], MH C t, 0) P X := by
  have hx : x.1 = s.1 := by rw [(spd_s h2).1, (gin_s h1).1]
  have hx2 : (nxt x).1 = s.1 + 1 := by show x.1 + 1 = _; rw [hx]
  refine w_p (pc1 := 10) rfl rfl ?_
  refine w_f (a := 245) (b := 13) rfl rfl rfl ?_
  refine w_p (pc1 := 14) rfl rfl ?_
  refine w_m0 (pc1 := 17) (st1 := .int 0 :: _) rfl rfl (h_gIe (j := 8) rfl rfl rfl rfl rfl (M.2.1.2.1)) rfl ?_
  refine w_f (a := 245) (b := 20) rfl rfl rfl ?_
  refine w_p (pc1 := 21) rfl rfl ?_
  refine w_m0 (pc1 := 24) (st1 := .long 7237492 :: _) rfl rfl rfl rfl ?_
  refine w_je (pc1 := 27) (vs := [.ref 176, .long 7237492]) (rest := []) (st1 := [.int 1]) (m_205t (d := _) (sl := 0) ((wd_k (k := 25) M.2.1 (by decide) (by decide)).trans (decide_eq_true hk))) rfl rfl rfl (fun _ _ => rfl) rfl (by exact cl_v my_205 rfl rfl rfl (Nat.le_of_ble_eq_true rfl) rfl (MH_obj rfl rfl) rfl (by decide) rfl rfl) (by rfl) (Nat.le_of_ble_eq_true rfl) (Nat.le_of_ble_eq_true rfl) rfl (by rfl) ?_
  refine w_f (a := 51) (b := 30) rfl rfl rfl ?_
  refine w_p (pc1 := 31) rfl rfl ?_
  refine w_ji (pc1 := 34) (vs := [.ref 176]) (rest := []) (oM (d := _) M h1) rfl rfl rfl (fun _ _ => rfl) rfl (by exact cl_v my_225 rfl rfl rfl (Nat.le_of_ble_eq_true rfl) rfl (MH_obj rfl rfl) rfl (by decide) rfl rfl) (by rfl) (Nat.le_of_ble_eq_true rfl) (Nat.le_of_ble_eq_true rfl) rfl (fun v h1 d1 hq => ?_) (fun _ _ _ e => e.elim)
  rcases hq with ⟨hv, ⟨C1, M1, hh⟩, hn⟩
  · subst hv; subst hh; subst hn
    refine w_p (pc1 := 35) rfl rfl ?_
    refine w_ji (pc1 := 38) (vs := [.ref 176]) (rest := []) (dM (d := _) M1 h2) rfl rfl rfl (fun _ _ => rfl) rfl (by exact cl_v my_226 rfl rfl rfl (Nat.le_of_ble_eq_true rfl) rfl (MH_obj rfl rfl) rfl (by decide) rfl rfl) (by rfl) (Nat.le_of_ble_eq_true rfl) (Nat.le_of_ble_eq_true rfl) rfl (fun v h1 d1 hq => ?_) (fun _ _ _ e => e.elim)
    rcases hq with ⟨hv, ⟨C2, M2, hh⟩, hn⟩
    · subst hv; subst hh; subst hn
      refine w_p (pc1 := 39) rfl rfl ?_
      refine w_p (pc1 := 40) (st1 := .int 4 :: _) rfl rfl ?_
      refine w_p (pc1 := 41) (st1 := .long 0 :: _) rfl rfl ?_
      refine w_ji (pc1 := 44) (vs := [.ref 176, .int 4, .long 0]) (rest := []) (pM (d := _) M2 (by omega)) rfl rfl rfl (fun _ _ => rfl) rfl (by exact cl_v my_224 rfl rfl rfl (Nat.le_of_ble_eq_true rfl) rfl (MH_obj rfl rfl) rfl (by decide) rfl rfl) (by rfl) (Nat.le_of_ble_eq_true rfl) (Nat.le_of_ble_eq_true rfl) rfl (fun v h1 d1 hq => ?_) (fun _ _ _ e => e.elim)
      rcases hq with ⟨hv, ⟨C3, M3, hh⟩, hn⟩
      · subst hv; subst hh; subst hn
        refine w_p (pc1 := 45) rfl rfl ?_
        refine w_ji (pc1 := 48) (vs := [.ref 176]) (rest := []) (nA (d := _) M3 (show x.1 < 600 by rw [hx]; exact h6)) rfl rfl rfl (fun _ _ => rfl) rfl (by exact cl_v my_195 rfl rfl rfl (Nat.le_of_ble_eq_true rfl) rfl (MH_obj rfl rfl) rfl (by decide) rfl rfl) (by rfl) (Nat.le_of_ble_eq_true rfl) (Nat.le_of_ble_eq_true rfl) rfl (fun v h1 d1 hq => ?_) (fun _ _ _ e => e.elim)
        rcases hq with ⟨hv, ⟨C4, Q4, hh⟩, hn⟩
        · subst hv; subst hh; subst hn
          refine w_p (pc1 := 9) rfl rfl ?_
          rw [hx2] at Q4
          exact H _ Q4
set_option maxRecDepth 100000 in
theorem t9b1 (hk : kd B n s.1 = 46) (M : MK B n C0 C p b wb (e + 1) s W) (he : e < 11) (h1 : gin s = .inl (c, i)) (H : ∀ C', FM B n C0 C' p b wb 2 c i → Wd L xs (d + 4) y_223 (9, [(1, .int 1), (0, .ref 176)], [], MH C' t, 0) P X) : Wd L xs (d + 4) y_223 (9, [(1, .int 1), (0, .ref 176)], [], MH C t, 0) P X := by
  refine w_p (pc1 := 10) rfl rfl ?_
  refine w_f (a := 245) (b := 13) rfl rfl rfl ?_
  refine w_p (pc1 := 14) rfl rfl ?_
  refine w_m0 (pc1 := 17) (st1 := .int 0 :: _) rfl rfl (h_gIe (j := 8) rfl rfl rfl rfl rfl (M.2.1.2.1)) rfl ?_
  refine w_f (a := 245) (b := 20) rfl rfl rfl ?_
  refine w_p (pc1 := 21) rfl rfl ?_
  refine w_m0 (pc1 := 24) (st1 := .long 7237492 :: _) rfl rfl rfl rfl ?_
  refine w_je (pc1 := 27) (vs := [.ref 176, .long 7237492]) (rest := []) (st1 := [.int 0]) (m_205f (d := _) (sl := 0) ((wd_k (k := 25) M.2.1 (by decide) (by decide)).trans (decide_eq_false (by rw [hk]; decide)))) rfl rfl rfl (fun _ _ => rfl) rfl (by exact cl_v my_205 rfl rfl rfl (Nat.le_of_ble_eq_true rfl) rfl (MH_obj rfl rfl) rfl (by decide) rfl rfl) (by rfl) (Nat.le_of_ble_eq_true rfl) (Nat.le_of_ble_eq_true rfl) rfl (by rfl) ?_
  refine w_t (a := 51) (b := 30) rfl rfl rfl ?_
  refine w_p (pc1 := 52) rfl rfl ?_
  refine w_p (pc1 := 54) (st1 := .int 91 :: _) rfl rfl ?_
  refine w_je (pc1 := 57) (vs := [.ref 176, .int 91]) (rest := []) (st1 := [.int 1]) (m_210t (d := _) (sl := 0) (c := 91) ((sg_k (k := 46) M.2.1 (by decide) (by decide)).trans (decide_eq_true hk))) rfl rfl rfl (fun _ _ => rfl) rfl (by exact cl_v my_210 rfl rfl rfl (Nat.le_of_ble_eq_true rfl) rfl (MH_obj rfl rfl) rfl (by decide) rfl rfl) (by rfl) (Nat.le_of_ble_eq_true rfl) (Nat.le_of_ble_eq_true rfl) rfl (by rfl) ?_
  refine w_f (a := 77) (b := 60) rfl rfl rfl ?_
  refine w_p (pc1 := 61) rfl rfl ?_
  refine w_ji (pc1 := 64) (vs := [.ref 176]) (rest := []) (oE (d := _) M h1) rfl rfl rfl (fun _ _ => rfl) rfl (by exact cl_v my_225 rfl rfl rfl (Nat.le_of_ble_eq_true rfl) rfl (MH_obj rfl rfl) rfl (by decide) rfl rfl) (by rfl) (Nat.le_of_ble_eq_true rfl) (Nat.le_of_ble_eq_true rfl) rfl (fun v h1 d1 hq => ?_) (fun _ _ _ e => e.elim)
  rcases hq with ⟨hv, ⟨C1, F1, hh⟩, hn⟩
  · subst hv; subst hh; subst hn
    refine w_p (pc1 := 65) rfl rfl ?_
    refine w_p (pc1 := 66) (st1 := .int 2 :: _) rfl rfl ?_
    refine w_p (pc1 := 67) (st1 := .long 0 :: _) rfl rfl ?_
    refine w_ji (pc1 := 70) (vs := [.ref 176, .int 2, .long 0]) (rest := []) (pF (d := _) F1 (by omega)) rfl rfl rfl (fun _ _ => rfl) rfl (by exact cl_v my_224 rfl rfl rfl (Nat.le_of_ble_eq_true rfl) rfl (MH_obj rfl rfl) rfl (by decide) rfl rfl) (by rfl) (Nat.le_of_ble_eq_true rfl) (Nat.le_of_ble_eq_true rfl) rfl (fun v h1 d1 hq => ?_) (fun _ _ _ e => e.elim)
    rcases hq with ⟨hv, ⟨C2, F2, hh⟩, hn⟩
    · subst hv; subst hh; subst hn
      refine w_p (pc1 := 71) rfl rfl ?_
      refine w_ji (pc1 := 74) (vs := [.ref 176]) (rest := []) (nF (d := _) F2) rfl rfl rfl (fun _ _ => rfl) rfl (by exact cl_v my_195 rfl rfl rfl (Nat.le_of_ble_eq_true rfl) rfl (MH_obj rfl rfl) rfl (by decide) rfl rfl) (by rfl) (Nat.le_of_ble_eq_true rfl) (Nat.le_of_ble_eq_true rfl) rfl (fun v h1 d1 hq => ?_) (fun _ _ _ e => e.elim)
      rcases hq with ⟨hv, ⟨C3, F3, hh⟩, hn⟩
      · subst hv; subst hh; subst hn
        refine w_p (pc1 := 9) rfl rfl ?_
        exact H _ (FM_u F3 (by omega))
set_option maxRecDepth 100000 in
theorem t9b (hk : kd B n s.1 = 46) (M : MK B n C0 C p b wb (e + 1) s W) (he : e < 11) (h6 : s.1 < 600) (h1 : gin s = .inr y) (H : ∀ C', ((kd B n (s.1 + 1) ≠ 1 ∧ MK B n C0 C' p b wb (e + 1) (nxt y) (W ++ [(2, 0)])) ∨ (kd B n (s.1 + 1) = 1 ∧ FM B n C0 C' p b wb 0 1 (s.1 + 1))) → Wd L xs (d + 4) y_223 (9, [(1, .int 1), (0, .ref 176)], [], MH C' t, 0) P X) : Wd L xs (d + 4) y_223 (9, [(1, .int 1), (0, .ref 176)], [], MH C t, 0) P X := by
  have hx : y.1 = s.1 := by rw [(gin_s h1).1]
  have hx2 : (nxt y).1 = s.1 + 1 := by show y.1 + 1 = _; rw [hx]
  refine w_p (pc1 := 10) rfl rfl ?_
  refine w_f (a := 245) (b := 13) rfl rfl rfl ?_
  refine w_p (pc1 := 14) rfl rfl ?_
  refine w_m0 (pc1 := 17) (st1 := .int 0 :: _) rfl rfl (h_gIe (j := 8) rfl rfl rfl rfl rfl (M.2.1.2.1)) rfl ?_
  refine w_f (a := 245) (b := 20) rfl rfl rfl ?_
  refine w_p (pc1 := 21) rfl rfl ?_
  refine w_m0 (pc1 := 24) (st1 := .long 7237492 :: _) rfl rfl rfl rfl ?_
  refine w_je (pc1 := 27) (vs := [.ref 176, .long 7237492]) (rest := []) (st1 := [.int 0]) (m_205f (d := _) (sl := 0) ((wd_k (k := 25) M.2.1 (by decide) (by decide)).trans (decide_eq_false (by rw [hk]; decide)))) rfl rfl rfl (fun _ _ => rfl) rfl (by exact cl_v my_205 rfl rfl rfl (Nat.le_of_ble_eq_true rfl) rfl (MH_obj rfl rfl) rfl (by decide) rfl rfl) (by rfl) (Nat.le_of_ble_eq_true rfl) (Nat.le_of_ble_eq_true rfl) rfl (by rfl) ?_
  refine w_t (a := 51) (b := 30) rfl rfl rfl ?_
  refine w_p (pc1 := 52) rfl rfl ?_
  refine w_p (pc1 := 54) (st1 := .int 91 :: _) rfl rfl ?_
  refine w_je (pc1 := 57) (vs := [.ref 176, .int 91]) (rest := []) (st1 := [.int 1]) (m_210t (d := _) (sl := 0) (c := 91) ((sg_k (k := 46) M.2.1 (by decide) (by decide)).trans (decide_eq_true hk))) rfl rfl rfl (fun _ _ => rfl) rfl (by exact cl_v my_210 rfl rfl rfl (Nat.le_of_ble_eq_true rfl) rfl (MH_obj rfl rfl) rfl (by decide) rfl rfl) (by rfl) (Nat.le_of_ble_eq_true rfl) (Nat.le_of_ble_eq_true rfl) rfl (by rfl) ?_
  refine w_f (a := 77) (b := 60) rfl rfl rfl ?_
  refine w_p (pc1 := 61) rfl rfl ?_
  refine w_ji (pc1 := 64) (vs := [.ref 176]) (rest := []) (oM (d := _) M h1) rfl rfl rfl (fun _ _ => rfl) rfl (by exact cl_v my_225 rfl rfl rfl (Nat.le_of_ble_eq_true rfl) rfl (MH_obj rfl rfl) rfl (by decide) rfl rfl) (by rfl) (Nat.le_of_ble_eq_true rfl) (Nat.le_of_ble_eq_true rfl) rfl (fun v h1 d1 hq => ?_) (fun _ _ _ e => e.elim)
  rcases hq with ⟨hv, ⟨C1, M1, hh⟩, hn⟩
  · subst hv; subst hh; subst hn
    refine w_p (pc1 := 65) rfl rfl ?_
    refine w_p (pc1 := 66) (st1 := .int 2 :: _) rfl rfl ?_
    refine w_p (pc1 := 67) (st1 := .long 0 :: _) rfl rfl ?_
    refine w_ji (pc1 := 70) (vs := [.ref 176, .int 2, .long 0]) (rest := []) (pM (d := _) M1 (by omega)) rfl rfl rfl (fun _ _ => rfl) rfl (by exact cl_v my_224 rfl rfl rfl (Nat.le_of_ble_eq_true rfl) rfl (MH_obj rfl rfl) rfl (by decide) rfl rfl) (by rfl) (Nat.le_of_ble_eq_true rfl) (Nat.le_of_ble_eq_true rfl) rfl (fun v h1 d1 hq => ?_) (fun _ _ _ e => e.elim)
    rcases hq with ⟨hv, ⟨C3, M3, hh⟩, hn⟩
    · subst hv; subst hh; subst hn
      refine w_p (pc1 := 71) rfl rfl ?_
      refine w_ji (pc1 := 74) (vs := [.ref 176]) (rest := []) (nA (d := _) M3 (show y.1 < 600 by rw [hx]; exact h6)) rfl rfl rfl (fun _ _ => rfl) rfl (by exact cl_v my_195 rfl rfl rfl (Nat.le_of_ble_eq_true rfl) rfl (MH_obj rfl rfl) rfl (by decide) rfl rfl) (by rfl) (Nat.le_of_ble_eq_true rfl) (Nat.le_of_ble_eq_true rfl) rfl (fun v h1 d1 hq => ?_) (fun _ _ _ e => e.elim)
      rcases hq with ⟨hv, ⟨C4, Q4, hh⟩, hn⟩
      · subst hv; subst hh; subst hn
        refine w_p (pc1 := 9) rfl rfl ?_
        rw [hx2] at Q4
        exact H _ Q4
set_option maxRecDepth 100000 in
theorem t99_7 (hk : kd B n s.1 = 7) (h0 : stX 8 x0) (h10 : x0.1 ≤ 10) (hR : ∀ x, x ∈ R → okX 8 x) (hc : c34 R ≤ s.2.2.1) (M : MK B n C0 C p b wb (e + 1) s (V ++ [enX x0] ++ (R.map enX).reverse)) (h6 : s.1 < 600) (he : e < 11) (h1 : spd (R.foldl (fun s x => dn x s) s) = .inr y) (H : ∀ C', ((kd B n (s.1 + 1) ≠ 1 ∧ MK B n C0 C' p b wb (e + 1) (nxt y) (V ++ [enX x0] ++ [enX (8, 0)])) ∨ (kd B n (s.1 + 1) = 1 ∧ FM B n C0 C' p b wb 0 1 (s.1 + 1))) → Wd L xs (d + 4) y_223 (9, [(1, .int 1), (0, .ref 176)], [], MH C' t, 0) P X) : Wd L xs (d + 4) y_223 (99, [(2, .int 1), (1, .int 1), (0, .ref 176)], [], MH C t, 0) P X := by
  have hf : (R.foldl (fun s x => dn x s) s).1 = s.1 := fold_1 R s
  have hy : y.1 = s.1 := (spd_s h1).1.trans hf
  refine w_p (pc1 := 100) rfl rfl ?_
  refine w_m0 (pc1 := 103) (st1 := .long 6385252 :: _) rfl rfl rfl rfl ?_
  refine w_je (pc1 := 106) (vs := [.ref 176, .long 6385252]) (rest := []) (st1 := [.int 1]) (m_205t (d := _) (sl := 0) ((wd_k (k := 7) M.2.1 (by decide) (by decide)).trans (decide_eq_true hk))) rfl rfl rfl (fun _ _ => rfl) rfl (by exact cl_v my_205 rfl rfl rfl (Nat.le_of_ble_eq_true rfl) rfl (MH_obj rfl rfl) rfl (by decide) rfl rfl) (by rfl) (Nat.le_of_ble_eq_true rfl) (Nat.le_of_ble_eq_true rfl) rfl (by rfl) ?_
  refine w_t (a := 119) (b := 109) rfl rfl rfl ?_
  refine w_p (pc1 := 120) rfl rfl ?_
  refine w_m0 (pc1 := 123) (st1 := .long 6385252 :: _) rfl rfl rfl rfl ?_
  refine w_je (pc1 := 126) (vs := [.ref 176, .long 6385252]) (rest := []) (st1 := [.int 1]) (m_205t (d := _) (sl := 0) ((wd_k (k := 7) M.2.1 (by decide) (by decide)).trans (decide_eq_true hk))) rfl rfl rfl (fun _ _ => rfl) rfl (by exact cl_v my_205 rfl rfl rfl (Nat.le_of_ble_eq_true rfl) rfl (MH_obj rfl rfl) rfl (by decide) rfl rfl) (by rfl) (Nat.le_of_ble_eq_true rfl) (Nat.le_of_ble_eq_true rfl) rfl (by rfl) ?_
  refine w_p (pc1 := 127) (al1 := [(3, .int 1), (2, .int 1), (1, .int 1), (0, .ref 176)]) rfl rfl ?_
  refine w_p (pc1 := 128) rfl rfl ?_
  refine w_p (pc1 := 129) rfl rfl ?_
  refine w_f (a := 137) (b := 132) rfl rfl rfl ?_
  refine w_p (pc1 := 134) (st1 := .int 8 :: _) rfl rfl ?_
  refine w_p (pc1 := 139) rfl rfl ?_
  refine w_ji (pc1 := 142) (vs := [.ref 176, .int 8]) (rest := []) (dTo (h := 8) (d := _) (by decide) h0 h10 R s C hR hc M) rfl rfl rfl (fun _ _ => rfl) rfl (by exact cl_v my_232 rfl rfl rfl (Nat.le_of_ble_eq_true rfl) rfl (MH_obj rfl rfl) rfl (by decide) rfl rfl) (by rfl) (Nat.le_of_ble_eq_true rfl) (Nat.le_of_ble_eq_true rfl) rfl (fun v h1 d1 hq => ?_) (fun _ _ _ e => e.elim)
  rcases hq with ⟨hv, ⟨C1, M1, hh⟩, hn⟩
  · subst hv; subst hh; subst hn
    refine w_p (pc1 := 143) rfl rfl ?_
    refine w_ji (pc1 := 146) (vs := [.ref 176]) (rest := []) (dM (d := _) M1 h1) rfl rfl rfl (fun _ _ => rfl) rfl (by exact cl_v my_226 rfl rfl rfl (Nat.le_of_ble_eq_true rfl) rfl (MH_obj rfl rfl) rfl (by decide) rfl rfl) (by rfl) (Nat.le_of_ble_eq_true rfl) (Nat.le_of_ble_eq_true rfl) rfl (fun v h1 d1 hq => ?_) (fun _ _ _ e => e.elim)
    rcases hq with ⟨hv, ⟨C2, M2, hh⟩, hn⟩
    · subst hv; subst hh; subst hn
      refine w_p (pc1 := 147) rfl rfl ?_
      refine w_p (pc1 := 148) rfl rfl ?_
      refine w_f (a := 156) (b := 151) rfl rfl rfl ?_
      refine w_p (pc1 := 153) (st1 := .int 8 :: _) rfl rfl ?_
      refine w_p (pc1 := 158) rfl rfl ?_
      refine w_p (pc1 := 159) (st1 := .long 0 :: _) rfl rfl ?_
      refine w_ji (pc1 := 162) (vs := [.ref 176, .int 8, .long 0]) (rest := []) (pM (d := _) M2 (by omega)) rfl rfl rfl (fun _ _ => rfl) rfl (by exact cl_v my_224 rfl rfl rfl (Nat.le_of_ble_eq_true rfl) rfl (MH_obj rfl rfl) rfl (by decide) rfl rfl) (by rfl) (Nat.le_of_ble_eq_true rfl) (Nat.le_of_ble_eq_true rfl) rfl (fun v h1 d1 hq => ?_) (fun _ _ _ e => e.elim)
      rcases hq with ⟨hv, ⟨C3, M3, hh⟩, hn⟩
      · subst hv; subst hh; subst hn
        refine w_p (pc1 := 163) rfl rfl ?_
        refine w_ji (pc1 := 166) (vs := [.ref 176]) (rest := []) (nA (d := _) M3 (show y.1 < 600 by rw [hy]; exact h6)) rfl rfl rfl (fun _ _ => rfl) rfl (by exact cl_v my_195 rfl rfl rfl (Nat.le_of_ble_eq_true rfl) rfl (MH_obj rfl rfl) rfl (by decide) rfl rfl) (by rfl) (Nat.le_of_ble_eq_true rfl) (Nat.le_of_ble_eq_true rfl) rfl (fun v h1 d1 hq => ?_) (fun _ _ _ e => e.elim)
        rcases hq with ⟨hv, ⟨C4, Q4, hh⟩, hn⟩
        · subst hv; subst hh; subst hn
          refine w_p (pc1 := 167) (st1 := .int 0 :: _) rfl rfl ?_
          refine w_p (pc1 := 168) (al1 := [(2, .int 0), (3, .int 1), (1, .int 1), (0, .ref 176)]) rfl rfl ?_
          refine w_p (pc1 := 83) rfl rfl ?_
          refine w_p (pc1 := 84) rfl rfl ?_
          refine w_t (a := 242) (b := 87) rfl rfl rfl ?_
          refine w_p (pc1 := 9) rfl rfl ?_
          refine Wd_al sb_t (H _ ?_)
          have hy2 : (nxt y).1 = s.1 + 1 := by show y.1 + 1 = _; rw [hy]
          rw [hy2] at Q4
          exact Q4
set_option maxRecDepth 100000 in
theorem t99e_7 (hk : kd B n s.1 = 7) (h0 : stX 8 x0) (h10 : x0.1 ≤ 10) (hR : ∀ x, x ∈ R → okX 8 x) (hc : c34 R ≤ s.2.2.1) (M : MK B n C0 C p b wb (e + 1) s (V ++ [enX x0] ++ (R.map enX).reverse)) (h1 : spd (R.foldl (fun s x => dn x s) s) = .inl (c, i)) (H : ∀ C', FM B n C0 C' p b wb 2 c i → Wd L xs (d + 4) y_223 (9, [(1, .int 1), (0, .ref 176)], [], MH C' t, 0) P X) : Wd L xs (d + 4) y_223 (99, [(2, .int 1), (1, .int 1), (0, .ref 176)], [], MH C t, 0) P X := by
  refine w_p (pc1 := 100) rfl rfl ?_
  refine w_m0 (pc1 := 103) (st1 := .long 6385252 :: _) rfl rfl rfl rfl ?_
  refine w_je (pc1 := 106) (vs := [.ref 176, .long 6385252]) (rest := []) (st1 := [.int 1]) (m_205t (d := _) (sl := 0) ((wd_k (k := 7) M.2.1 (by decide) (by decide)).trans (decide_eq_true hk))) rfl rfl rfl (fun _ _ => rfl) rfl (by exact cl_v my_205 rfl rfl rfl (Nat.le_of_ble_eq_true rfl) rfl (MH_obj rfl rfl) rfl (by decide) rfl rfl) (by rfl) (Nat.le_of_ble_eq_true rfl) (Nat.le_of_ble_eq_true rfl) rfl (by rfl) ?_
  refine w_t (a := 119) (b := 109) rfl rfl rfl ?_
  refine w_p (pc1 := 120) rfl rfl ?_
  refine w_m0 (pc1 := 123) (st1 := .long 6385252 :: _) rfl rfl rfl rfl ?_
  refine w_je (pc1 := 126) (vs := [.ref 176, .long 6385252]) (rest := []) (st1 := [.int 1]) (m_205t (d := _) (sl := 0) ((wd_k (k := 7) M.2.1 (by decide) (by decide)).trans (decide_eq_true hk))) rfl rfl rfl (fun _ _ => rfl) rfl (by exact cl_v my_205 rfl rfl rfl (Nat.le_of_ble_eq_true rfl) rfl (MH_obj rfl rfl) rfl (by decide) rfl rfl) (by rfl) (Nat.le_of_ble_eq_true rfl) (Nat.le_of_ble_eq_true rfl) rfl (by rfl) ?_
  refine w_p (pc1 := 127) (al1 := [(3, .int 1), (2, .int 1), (1, .int 1), (0, .ref 176)]) rfl rfl ?_
  refine w_p (pc1 := 128) rfl rfl ?_
  refine w_p (pc1 := 129) rfl rfl ?_
  refine w_f (a := 137) (b := 132) rfl rfl rfl ?_
  refine w_p (pc1 := 134) (st1 := .int 8 :: _) rfl rfl ?_
  refine w_p (pc1 := 139) rfl rfl ?_
  refine w_ji (pc1 := 142) (vs := [.ref 176, .int 8]) (rest := []) (dTo (h := 8) (d := _) (by decide) h0 h10 R s C hR hc M) rfl rfl rfl (fun _ _ => rfl) rfl (by exact cl_v my_232 rfl rfl rfl (Nat.le_of_ble_eq_true rfl) rfl (MH_obj rfl rfl) rfl (by decide) rfl rfl) (by rfl) (Nat.le_of_ble_eq_true rfl) (Nat.le_of_ble_eq_true rfl) rfl (fun v h1 d1 hq => ?_) (fun _ _ _ e => e.elim)
  rcases hq with ⟨hv, ⟨C1, M1, hh⟩, hn⟩
  · subst hv; subst hh; subst hn
    refine w_p (pc1 := 143) rfl rfl ?_
    refine w_ji (pc1 := 146) (vs := [.ref 176]) (rest := []) (dE (d := _) M1 h1) rfl rfl rfl (fun _ _ => rfl) rfl (by exact cl_v my_226 rfl rfl rfl (Nat.le_of_ble_eq_true rfl) rfl (MH_obj rfl rfl) rfl (by decide) rfl rfl) (by rfl) (Nat.le_of_ble_eq_true rfl) (Nat.le_of_ble_eq_true rfl) rfl (fun v h1 d1 hq => ?_) (fun _ _ _ e => e.elim)
    rcases hq with ⟨hv, ⟨C2, F2, hh⟩, hn⟩
    · subst hv; subst hh; subst hn
      refine w_p (pc1 := 147) rfl rfl ?_
      refine w_p (pc1 := 148) rfl rfl ?_
      refine w_f (a := 156) (b := 151) rfl rfl rfl ?_
      refine w_p (pc1 := 153) (st1 := .int 8 :: _) rfl rfl ?_
      refine w_p (pc1 := 158) rfl rfl ?_
      refine w_p (pc1 := 159) (st1 := .long 0 :: _) rfl rfl ?_
      refine w_ji (pc1 := 162) (vs := [.ref 176, .int 8, .long 0]) (rest := []) (pF (d := _) F2 (by omega)) rfl rfl rfl (fun _ _ => rfl) rfl (by exact cl_v my_224 rfl rfl rfl (Nat.le_of_ble_eq_true rfl) rfl (MH_obj rfl rfl) rfl (by decide) rfl rfl) (by rfl) (Nat.le_of_ble_eq_true rfl) (Nat.le_of_ble_eq_true rfl) rfl (fun v h1 d1 hq => ?_) (fun _ _ _ e => e.elim)
      rcases hq with ⟨hv, ⟨C3, F3, hh⟩, hn⟩
      · subst hv; subst hh; subst hn
        refine w_p (pc1 := 163) rfl rfl ?_
        refine w_ji (pc1 := 166) (vs := [.ref 176]) (rest := []) (nF (d := _) F3) rfl rfl rfl (fun _ _ => rfl) rfl (by exact cl_v my_195 rfl rfl rfl (Nat.le_of_ble_eq_true rfl) rfl (MH_obj rfl rfl) rfl (by decide) rfl rfl) (by rfl) (Nat.le_of_ble_eq_true rfl) (Nat.le_of_ble_eq_true rfl) rfl (fun v h1 d1 hq => ?_) (fun _ _ _ e => e.elim)
        rcases hq with ⟨hv, ⟨C4, F4, hh⟩, hn⟩
        · subst hv; subst hh; subst hn
          refine w_p (pc1 := 167) (st1 := .int 0 :: _) rfl rfl ?_
          refine w_p (pc1 := 168) (al1 := [(2, .int 0), (3, .int 1), (1, .int 1), (0, .ref 176)]) rfl rfl ?_
          refine w_p (pc1 := 83) rfl rfl ?_
          refine w_p (pc1 := 84) rfl rfl ?_
          refine w_t (a := 242) (b := 87) rfl rfl rfl ?_
          refine w_p (pc1 := 9) rfl rfl ?_
          exact Wd_al sb_t (H _ F4)
set_option maxRecDepth 100000 in
theorem t99_30 (hk : kd B n s.1 = 30) (h0 : stX 9 x0) (h10 : x0.1 ≤ 10) (hR : ∀ x, x ∈ R → okX 9 x) (hc : c34 R ≤ s.2.2.1) (M : MK B n C0 C p b wb (e + 1) s (V ++ [enX x0] ++ (R.map enX).reverse)) (h6 : s.1 < 600) (he : e < 11) (h1 : spd (R.foldl (fun s x => dn x s) s) = .inr y) (H : ∀ C', ((kd B n (s.1 + 1) ≠ 1 ∧ MK B n C0 C' p b wb (e + 1) (nxt y) (V ++ [enX x0] ++ [enX (9, 0)])) ∨ (kd B n (s.1 + 1) = 1 ∧ FM B n C0 C' p b wb 0 1 (s.1 + 1))) → Wd L xs (d + 4) y_223 (9, [(1, .int 1), (0, .ref 176)], [], MH C' t, 0) P X) : Wd L xs (d + 4) y_223 (99, [(2, .int 1), (1, .int 1), (0, .ref 176)], [], MH C t, 0) P X := by
  have hf : (R.foldl (fun s x => dn x s) s).1 = s.1 := fold_1 R s
  have hy : y.1 = s.1 := (spd_s h1).1.trans hf
  refine w_p (pc1 := 100) rfl rfl ?_
  refine w_m0 (pc1 := 103) (st1 := .long 6385252 :: _) rfl rfl rfl rfl ?_
  refine w_je (pc1 := 106) (vs := [.ref 176, .long 6385252]) (rest := []) (st1 := [.int 0]) (m_205f (d := _) (sl := 0) ((wd_k (k := 7) M.2.1 (by decide) (by decide)).trans (decide_eq_false (by rw [hk]; decide)))) rfl rfl rfl (fun _ _ => rfl) rfl (by exact cl_v my_205 rfl rfl rfl (Nat.le_of_ble_eq_true rfl) rfl (MH_obj rfl rfl) rfl (by decide) rfl rfl) (by rfl) (Nat.le_of_ble_eq_true rfl) (Nat.le_of_ble_eq_true rfl) rfl (by rfl) ?_
  refine w_f (a := 119) (b := 109) rfl rfl rfl ?_
  refine w_p (pc1 := 110) rfl rfl ?_
  refine w_m0 (pc1 := 113) (st1 := .long 28530 :: _) rfl rfl rfl rfl ?_
  refine w_je (pc1 := 116) (vs := [.ref 176, .long 28530]) (rest := []) (st1 := [.int 1]) (m_205t (d := _) (sl := 0) ((wd_k (k := 30) M.2.1 (by decide) (by decide)).trans (decide_eq_true hk))) rfl rfl rfl (fun _ _ => rfl) rfl (by exact cl_v my_205 rfl rfl rfl (Nat.le_of_ble_eq_true rfl) rfl (MH_obj rfl rfl) rfl (by decide) rfl rfl) (by rfl) (Nat.le_of_ble_eq_true rfl) (Nat.le_of_ble_eq_true rfl) rfl (by rfl) ?_
  refine w_f (a := 171) (b := 119) rfl rfl rfl ?_
  refine w_p (pc1 := 120) rfl rfl ?_
  refine w_m0 (pc1 := 123) (st1 := .long 6385252 :: _) rfl rfl rfl rfl ?_
  refine w_je (pc1 := 126) (vs := [.ref 176, .long 6385252]) (rest := []) (st1 := [.int 0]) (m_205f (d := _) (sl := 0) ((wd_k (k := 7) M.2.1 (by decide) (by decide)).trans (decide_eq_false (by rw [hk]; decide)))) rfl rfl rfl (fun _ _ => rfl) rfl (by exact cl_v my_205 rfl rfl rfl (Nat.le_of_ble_eq_true rfl) rfl (MH_obj rfl rfl) rfl (by decide) rfl rfl) (by rfl) (Nat.le_of_ble_eq_true rfl) (Nat.le_of_ble_eq_true rfl) rfl (by rfl) ?_
  refine w_p (pc1 := 127) (al1 := [(3, .int 0), (2, .int 1), (1, .int 1), (0, .ref 176)]) rfl rfl ?_
  refine w_p (pc1 := 128) rfl rfl ?_
  refine w_p (pc1 := 129) rfl rfl ?_
  refine w_t (a := 137) (b := 132) rfl rfl rfl ?_
  refine w_p (pc1 := 139) (st1 := .int 9 :: _) rfl rfl ?_
  refine w_ji (pc1 := 142) (vs := [.ref 176, .int 9]) (rest := []) (dTo (h := 9) (d := _) (by decide) h0 h10 R s C hR hc M) rfl rfl rfl (fun _ _ => rfl) rfl (by exact cl_v my_232 rfl rfl rfl (Nat.le_of_ble_eq_true rfl) rfl (MH_obj rfl rfl) rfl (by decide) rfl rfl) (by rfl) (Nat.le_of_ble_eq_true rfl) (Nat.le_of_ble_eq_true rfl) rfl (fun v h1 d1 hq => ?_) (fun _ _ _ e => e.elim)
  rcases hq with ⟨hv, ⟨C1, M1, hh⟩, hn⟩
  · subst hv; subst hh; subst hn
    refine w_p (pc1 := 143) rfl rfl ?_
    refine w_ji (pc1 := 146) (vs := [.ref 176]) (rest := []) (dM (d := _) M1 h1) rfl rfl rfl (fun _ _ => rfl) rfl (by exact cl_v my_226 rfl rfl rfl (Nat.le_of_ble_eq_true rfl) rfl (MH_obj rfl rfl) rfl (by decide) rfl rfl) (by rfl) (Nat.le_of_ble_eq_true rfl) (Nat.le_of_ble_eq_true rfl) rfl (fun v h1 d1 hq => ?_) (fun _ _ _ e => e.elim)
    rcases hq with ⟨hv, ⟨C2, M2, hh⟩, hn⟩
    · subst hv; subst hh; subst hn
      refine w_p (pc1 := 147) rfl rfl ?_
      refine w_p (pc1 := 148) rfl rfl ?_
      refine w_t (a := 156) (b := 151) rfl rfl rfl ?_
      refine w_p (pc1 := 158) (st1 := .int 9 :: _) rfl rfl ?_
      refine w_p (pc1 := 159) (st1 := .long 0 :: _) rfl rfl ?_
      refine w_ji (pc1 := 162) (vs := [.ref 176, .int 9, .long 0]) (rest := []) (pM (d := _) M2 (by omega)) rfl rfl rfl (fun _ _ => rfl) rfl (by exact cl_v my_224 rfl rfl rfl (Nat.le_of_ble_eq_true rfl) rfl (MH_obj rfl rfl) rfl (by decide) rfl rfl) (by rfl) (Nat.le_of_ble_eq_true rfl) (Nat.le_of_ble_eq_true rfl) rfl (fun v h1 d1 hq => ?_) (fun _ _ _ e => e.elim)
      rcases hq with ⟨hv, ⟨C3, M3, hh⟩, hn⟩
      · subst hv; subst hh; subst hn
        refine w_p (pc1 := 163) rfl rfl ?_
        refine w_ji (pc1 := 166) (vs := [.ref 176]) (rest := []) (nA (d := _) M3 (show y.1 < 600 by rw [hy]; exact h6)) rfl rfl rfl (fun _ _ => rfl) rfl (by exact cl_v my_195 rfl rfl rfl (Nat.le_of_ble_eq_true rfl) rfl (MH_obj rfl rfl) rfl (by decide) rfl rfl) (by rfl) (Nat.le_of_ble_eq_true rfl) (Nat.le_of_ble_eq_true rfl) rfl (fun v h1 d1 hq => ?_) (fun _ _ _ e => e.elim)
        rcases hq with ⟨hv, ⟨C4, Q4, hh⟩, hn⟩
        · subst hv; subst hh; subst hn
          refine w_p (pc1 := 167) (st1 := .int 0 :: _) rfl rfl ?_
          refine w_p (pc1 := 168) (al1 := [(2, .int 0), (3, .int 0), (1, .int 1), (0, .ref 176)]) rfl rfl ?_
          refine w_p (pc1 := 83) rfl rfl ?_
          refine w_p (pc1 := 84) rfl rfl ?_
          refine w_t (a := 242) (b := 87) rfl rfl rfl ?_
          refine w_p (pc1 := 9) rfl rfl ?_
          refine Wd_al sb_t (H _ ?_)
          have hy2 : (nxt y).1 = s.1 + 1 := by show y.1 + 1 = _; rw [hy]
          rw [hy2] at Q4
          exact Q4
set_option maxRecDepth 100000 in
theorem t99e_30 (hk : kd B n s.1 = 30) (h0 : stX 9 x0) (h10 : x0.1 ≤ 10) (hR : ∀ x, x ∈ R → okX 9 x) (hc : c34 R ≤ s.2.2.1) (M : MK B n C0 C p b wb (e + 1) s (V ++ [enX x0] ++ (R.map enX).reverse)) (h1 : spd (R.foldl (fun s x => dn x s) s) = .inl (c, i)) (H : ∀ C', FM B n C0 C' p b wb 2 c i → Wd L xs (d + 4) y_223 (9, [(1, .int 1), (0, .ref 176)], [], MH C' t, 0) P X) : Wd L xs (d + 4) y_223 (99, [(2, .int 1), (1, .int 1), (0, .ref 176)], [], MH C t, 0) P X := by
  refine w_p (pc1 := 100) rfl rfl ?_
  refine w_m0 (pc1 := 103) (st1 := .long 6385252 :: _) rfl rfl rfl rfl ?_
  refine w_je (pc1 := 106) (vs := [.ref 176, .long 6385252]) (rest := []) (st1 := [.int 0]) (m_205f (d := _) (sl := 0) ((wd_k (k := 7) M.2.1 (by decide) (by decide)).trans (decide_eq_false (by rw [hk]; decide)))) rfl rfl rfl (fun _ _ => rfl) rfl (by exact cl_v my_205 rfl rfl rfl (Nat.le_of_ble_eq_true rfl) rfl (MH_obj rfl rfl) rfl (by decide) rfl rfl) (by rfl) (Nat.le_of_ble_eq_true rfl) (Nat.le_of_ble_eq_true rfl) rfl (by rfl) ?_
  refine w_f (a := 119) (b := 109) rfl rfl rfl ?_
  refine w_p (pc1 := 110) rfl rfl ?_
  refine w_m0 (pc1 := 113) (st1 := .long 28530 :: _) rfl rfl rfl rfl ?_
  refine w_je (pc1 := 116) (vs := [.ref 176, .long 28530]) (rest := []) (st1 := [.int 1]) (m_205t (d := _) (sl := 0) ((wd_k (k := 30) M.2.1 (by decide) (by decide)).trans (decide_eq_true hk))) rfl rfl rfl (fun _ _ => rfl) rfl (by exact cl_v my_205 rfl rfl rfl (Nat.le_of_ble_eq_true rfl) rfl (MH_obj rfl rfl) rfl (by decide) rfl rfl) (by rfl) (Nat.le_of_ble_eq_true rfl) (Nat.le_of_ble_eq_true rfl) rfl (by rfl) ?_
  refine w_f (a := 171) (b := 119) rfl rfl rfl ?_
  refine w_p (pc1 := 120) rfl rfl ?_
  refine w_m0 (pc1 := 123) (st1 := .long 6385252 :: _) rfl rfl rfl rfl ?_
  refine w_je (pc1 := 126) (vs := [.ref 176, .long 6385252]) (rest := []) (st1 := [.int 0]) (m_205f (d := _) (sl := 0) ((wd_k (k := 7) M.2.1 (by decide) (by decide)).trans (decide_eq_false (by rw [hk]; decide)))) rfl rfl rfl (fun _ _ => rfl) rfl (by exact cl_v my_205 rfl rfl rfl (Nat.le_of_ble_eq_true rfl) rfl (MH_obj rfl rfl) rfl (by decide) rfl rfl) (by rfl) (Nat.le_of_ble_eq_true rfl) (Nat.le_of_ble_eq_true rfl) rfl (by rfl) ?_
  refine w_p (pc1 := 127) (al1 := [(3, .int 0), (2, .int 1), (1, .int 1), (0, .ref 176)]) rfl rfl ?_
  refine w_p (pc1 := 128) rfl rfl ?_
  refine w_p (pc1 := 129) rfl rfl ?_
  refine w_t (a := 137) (b := 132) rfl rfl rfl ?_
  refine w_p (pc1 := 139) (st1 := .int 9 :: _) rfl rfl ?_
  refine w_ji (pc1 := 142) (vs := [.ref 176, .int 9]) (rest := []) (dTo (h := 9) (d := _) (by decide) h0 h10 R s C hR hc M) rfl rfl rfl (fun _ _ => rfl) rfl (by exact cl_v my_232 rfl rfl rfl (Nat.le_of_ble_eq_true rfl) rfl (MH_obj rfl rfl) rfl (by decide) rfl rfl) (by rfl) (Nat.le_of_ble_eq_true rfl) (Nat.le_of_ble_eq_true rfl) rfl (fun v h1 d1 hq => ?_) (fun _ _ _ e => e.elim)
  rcases hq with ⟨hv, ⟨C1, M1, hh⟩, hn⟩
  · subst hv; subst hh; subst hn
    refine w_p (pc1 := 143) rfl rfl ?_
    refine w_ji (pc1 := 146) (vs := [.ref 176]) (rest := []) (dE (d := _) M1 h1) rfl rfl rfl (fun _ _ => rfl) rfl (by exact cl_v my_226 rfl rfl rfl (Nat.le_of_ble_eq_true rfl) rfl (MH_obj rfl rfl) rfl (by decide) rfl rfl) (by rfl) (Nat.le_of_ble_eq_true rfl) (Nat.le_of_ble_eq_true rfl) rfl (fun v h1 d1 hq => ?_) (fun _ _ _ e => e.elim)
    rcases hq with ⟨hv, ⟨C2, F2, hh⟩, hn⟩
    · subst hv; subst hh; subst hn
      refine w_p (pc1 := 147) rfl rfl ?_
      refine w_p (pc1 := 148) rfl rfl ?_
      refine w_t (a := 156) (b := 151) rfl rfl rfl ?_
      refine w_p (pc1 := 158) (st1 := .int 9 :: _) rfl rfl ?_
      refine w_p (pc1 := 159) (st1 := .long 0 :: _) rfl rfl ?_
      refine w_ji (pc1 := 162) (vs := [.ref 176, .int 9, .long 0]) (rest := []) (pF (d := _) F2 (by omega)) rfl rfl rfl (fun _ _ => rfl) rfl (by exact cl_v my_224 rfl rfl rfl (Nat.le_of_ble_eq_true rfl) rfl (MH_obj rfl rfl) rfl (by decide) rfl rfl) (by rfl) (Nat.le_of_ble_eq_true rfl) (Nat.le_of_ble_eq_true rfl) rfl (fun v h1 d1 hq => ?_) (fun _ _ _ e => e.elim)
      rcases hq with ⟨hv, ⟨C3, F3, hh⟩, hn⟩
      · subst hv; subst hh; subst hn
        refine w_p (pc1 := 163) rfl rfl ?_
        refine w_ji (pc1 := 166) (vs := [.ref 176]) (rest := []) (nF (d := _) F3) rfl rfl rfl (fun _ _ => rfl) rfl (by exact cl_v my_195 rfl rfl rfl (Nat.le_of_ble_eq_true rfl) rfl (MH_obj rfl rfl) rfl (by decide) rfl rfl) (by rfl) (Nat.le_of_ble_eq_true rfl) (Nat.le_of_ble_eq_true rfl) rfl (fun v h1 d1 hq => ?_) (fun _ _ _ e => e.elim)
        rcases hq with ⟨hv, ⟨C4, F4, hh⟩, hn⟩
        · subst hv; subst hh; subst hn
          refine w_p (pc1 := 167) (st1 := .int 0 :: _) rfl rfl ?_
          refine w_p (pc1 := 168) (al1 := [(2, .int 0), (3, .int 0), (1, .int 1), (0, .ref 176)]) rfl rfl ?_
          refine w_p (pc1 := 83) rfl rfl ?_
          refine w_p (pc1 := 84) rfl rfl ?_
          refine w_t (a := 242) (b := 87) rfl rfl rfl ?_
          refine w_p (pc1 := 9) rfl rfl ?_
          exact Wd_al sb_t (H _ F4)
set_option maxRecDepth 100000 in
theorem t99n (hk7 : kd B n s.1 ≠ 7) (hk30 : kd B n s.1 ≠ 30) (h0 : stX 9 x0) (h10 : x0.1 ≤ 10) (hR : ∀ x, x ∈ R → okX 9 x) (hc : c34 R ≤ s.2.2.1) (M : MK B n C0 C p b wb (e + 1) s (V ++ [enX x0] ++ (R.map enX).reverse)) (H : ∀ C', MK B n C0 C' p b wb (e + 1) (R.foldl (fun s x => dn x s) s) (V ++ [enX x0]) → Wd L xs (d + 3) y_223 (177, [(2, .int 1), (1, .int 1), (0, .ref 176)], [], MH C' t, 0) P X) : Wd L xs (d + 3) y_223 (99, [(2, .int 1), (1, .int 1), (0, .ref 176)], [], MH C t, 0) P X := by
  refine w_p (pc1 := 100) rfl rfl ?_
  refine w_m0 (pc1 := 103) (st1 := .long 6385252 :: _) rfl rfl rfl rfl ?_
  refine w_je (pc1 := 106) (vs := [.ref 176, .long 6385252]) (rest := []) (st1 := [.int 0]) (m_205f (d := _) (sl := 0) ((wd_k (k := 7) M.2.1 (by decide) (by decide)).trans (decide_eq_false hk7))) rfl rfl rfl (fun _ _ => rfl) rfl (by exact cl_v my_205 rfl rfl rfl (Nat.le_of_ble_eq_true rfl) rfl (MH_obj rfl rfl) rfl (by decide) rfl rfl) (by rfl) (Nat.le_of_ble_eq_true rfl) (Nat.le_of_ble_eq_true rfl) rfl (by rfl) ?_
  refine w_f (a := 119) (b := 109) rfl rfl rfl ?_
  refine w_p (pc1 := 110) rfl rfl ?_
  refine w_m0 (pc1 := 113) (st1 := .long 28530 :: _) rfl rfl rfl rfl ?_
  refine w_je (pc1 := 116) (vs := [.ref 176, .long 28530]) (rest := []) (st1 := [.int 0]) (m_205f (d := _) (sl := 0) ((wd_k (k := 30) M.2.1 (by decide) (by decide)).trans (decide_eq_false hk30))) rfl rfl rfl (fun _ _ => rfl) rfl (by exact cl_v my_205 rfl rfl rfl (Nat.le_of_ble_eq_true rfl) rfl (MH_obj rfl rfl) rfl (by decide) rfl rfl) (by rfl) (Nat.le_of_ble_eq_true rfl) (Nat.le_of_ble_eq_true rfl) rfl (by rfl) ?_
  refine w_t (a := 171) (b := 119) rfl rfl rfl ?_
  refine w_p (pc1 := 172) rfl rfl ?_
  refine w_p (pc1 := 174) (st1 := .int 9 :: _) rfl rfl ?_
  refine w_ji (pc1 := 177) (vs := [.ref 176, .int 9]) (rest := []) (dTo (h := 9) (d := _) (by decide) h0 h10 R s C hR hc M) rfl rfl rfl (fun _ _ => rfl) rfl (by exact cl_v my_232 rfl rfl rfl (Nat.le_of_ble_eq_true rfl) rfl (MH_obj rfl rfl) rfl (by decide) rfl rfl) (by rfl) (Nat.le_of_ble_eq_true rfl) (Nat.le_of_ble_eq_true rfl) rfl (fun v h1 d1 hq => ?_) (fun _ _ _ e => e.elim)
  rcases hq with ⟨hv, ⟨C1, M1, hh⟩, hn⟩
  · subst hv; subst hh; subst hn
    exact H _ M1
set_option maxRecDepth 100000 in
theorem t177c (hk : kd B n s.1 = 47) (h1 : 1 ≤ s.2.2.1) (h6 : s.1 < 600) (M : MK B n C0 C p b wb (e + 2) s (W ++ [enX (2, 0)])) (H : ∀ C', ((kd B n (s.1 + 1) ≠ 1 ∧ MK B n C0 C' p b wb e (nxt (gou s)) W) ∨ (kd B n (s.1 + 1) = 1 ∧ FM B n C0 C' p b wb 0 1 (s.1 + 1))) → Wd L xs (d + 4) y_223 (83, [(2, .int 1), (1, .int 1), (0, .ref 176)], [], MH C' t, 0) P X) : Wd L xs (d + 4) y_223 (177, [(2, .int 1), (1, .int 1), (0, .ref 176)], [], MH C t, 0) P X := by
  have ht := MK_top M
  have M1 := MK_c (MK_q M)
  refine w_p (pc1 := 178) rfl rfl ?_
  refine w_p (pc1 := 180) (st1 := .int 93 :: _) rfl rfl ?_
  refine w_je (pc1 := 183) (vs := [.ref 176, .int 93]) (rest := []) (st1 := [.int 1]) (m_210t (d := _) (sl := 0) (c := 93) ((sg_k (k := 47) M.2.1 (by decide) (by decide)).trans (decide_eq_true hk))) rfl rfl rfl (fun _ _ => rfl) rfl (by exact cl_v my_210 rfl rfl rfl (Nat.le_of_ble_eq_true rfl) rfl (MH_obj rfl rfl) rfl (by decide) rfl rfl) (by rfl) (Nat.le_of_ble_eq_true rfl) (Nat.le_of_ble_eq_true rfl) rfl (by rfl) ?_
  refine w_f (a := 221) (b := 186) rfl rfl rfl ?_
  refine w_p (pc1 := 187) rfl rfl ?_
  refine w_je (pc1 := 190) (vs := [.ref 176]) (rest := []) (st1 := [.int 2]) (tM (d := _) (x := (2, 0)) M) rfl rfl rfl (fun _ _ => rfl) rfl (by exact cl_v my_233 rfl rfl rfl (Nat.le_of_ble_eq_true rfl) rfl (MH_obj rfl rfl) rfl (by decide) rfl rfl) (by rfl) (Nat.le_of_ble_eq_true rfl) (Nat.le_of_ble_eq_true rfl) rfl (by rfl) ?_
  refine w_p (pc1 := 191) (st1 := .int 2 :: _) rfl rfl ?_
  refine w_f (a := 221) (b := 194) rfl rfl rfl ?_
  refine w_p (pc1 := 195) rfl rfl ?_
  refine w_p (pc1 := 196) rfl rfl ?_
  refine w_m0 (pc1 := 199) (st1 := .int (nI (wb + W.length + 1)) :: _) rfl rfl (h_gIe (j := 52) rfl rfl rfl rfl rfl (ht.1)) rfl ?_
  refine w_p (pc1 := 200) (st1 := .int 1 :: _) rfl rfl ?_
  refine w_isub (pc1 := 201) (z := nI (wb + W.length)) rfl (nK_sub (Nat.le_add_left 1 _)) rfl ?_
  refine w_m0 (pc1 := 204) rfl rfl (h_pI (j := 52) rfl rfl rfl rfl rfl rfl rfl ⟨rfl, rfl⟩ rfl) rfl ?_
  refine w_p (pc1 := 205) rfl rfl ?_
  refine w_p (pc1 := 206) rfl rfl ?_
  refine w_m0 (pc1 := 209) (st1 := .int (nI (s.2.2.1)) :: _) rfl rfl (h_gIe (j := 45) rfl rfl rfl rfl rfl (M.2.2.2.2.2.1)) rfl ?_
  refine w_p (pc1 := 210) (st1 := .int 1 :: _) rfl rfl ?_
  refine w_isub (pc1 := 211) (u := nI (s.2.2.1)) (v := nI (1)) (z := nI (s.2.2.1 - 1)) rfl (nK_sub (by omega)) rfl ?_
  refine w_m0 (pc1 := 214) rfl rfl (h_pI (j := 45) rfl rfl rfl rfl rfl rfl rfl ⟨rfl, rfl⟩ rfl) rfl ?_
  refine w_p (pc1 := 215) rfl rfl ?_
  refine w_ji (pc1 := 218) (vs := [.ref 176]) (rest := []) (nA (d := _) M1 h6) rfl rfl rfl (fun _ _ => rfl) rfl (by exact cl_v my_195 rfl rfl rfl (Nat.le_of_ble_eq_true rfl) rfl (MH_obj rfl rfl) rfl (by decide) rfl rfl) (by rfl) (Nat.le_of_ble_eq_true rfl) (Nat.le_of_ble_eq_true rfl) rfl (fun v h1 d1 hq => ?_) (fun _ _ _ e => e.elim)
  rcases hq with ⟨hv, ⟨C2, Q2, hh⟩, hn⟩
  · subst hv; subst hh; subst hn
    refine w_p (pc1 := 83) rfl rfl ?_
    exact H _ Q2
set_option maxRecDepth 100000 in
theorem t177x (hk : kd B n s.1 ≠ 47) (M : MK B n C0 C p b wb e s (W ++ [enX (2, 0)])) (H : ∀ C', FM B n C0 C' p b wb 0 2 s.1 → Wd L xs (d + 4) y_223 (245, [(0, .ref 176)], [], MH C' t, 0) P X) : Wd L xs (d + 4) y_223 (177, [(2, .int 1), (1, .int 1), (0, .ref 176)], [], MH C t, 0) P X := by
  have hF := FM_new (c := 2) M (by decide)
  refine w_p (pc1 := 178) rfl rfl ?_
  refine w_p (pc1 := 180) (st1 := .int 93 :: _) rfl rfl ?_
  refine w_je (pc1 := 183) (vs := [.ref 176, .int 93]) (rest := []) (st1 := [.int 0]) (m_210f (d := _) (sl := 0) (c := 93) ((sg_k (k := 47) M.2.1 (by decide) (by decide)).trans (decide_eq_false hk))) rfl rfl rfl (fun _ _ => rfl) rfl (by exact cl_v my_210 rfl rfl rfl (Nat.le_of_ble_eq_true rfl) rfl (MH_obj rfl rfl) rfl (by decide) rfl rfl) (by rfl) (Nat.le_of_ble_eq_true rfl) (Nat.le_of_ble_eq_true rfl) rfl (by rfl) ?_
  refine w_t (a := 221) (b := 186) rfl rfl rfl ?_
  refine w_p (pc1 := 222) (st1 := .int 0 :: _) rfl rfl ?_
  refine w_p (pc1 := 223) (al1 := [(2, .int 0), (1, .int 1), (0, .ref 176)]) rfl rfl ?_
  refine w_p (pc1 := 224) (st1 := .int 0 :: _) rfl rfl ?_
  refine w_p (pc1 := 225) (al1 := [(1, .int 0), (2, .int 0), (0, .ref 176)]) rfl rfl ?_
  refine w_p (pc1 := 226) rfl rfl ?_
  refine w_je (pc1 := 229) (vs := [.ref 176]) (rest := []) (st1 := [.int 2]) (tM (d := _) (x := (2, 0)) M) rfl rfl rfl (fun _ _ => rfl) rfl (by exact cl_v my_233 rfl rfl rfl (Nat.le_of_ble_eq_true rfl) rfl (MH_obj rfl rfl) rfl (by decide) rfl rfl) (by rfl) (Nat.le_of_ble_eq_true rfl) (Nat.le_of_ble_eq_true rfl) rfl (by rfl) ?_
  refine w_p (pc1 := 231) (st1 := .int 10 :: _) rfl rfl ?_
  refine w_f (a := 83) (b := 234) rfl rfl rfl ?_
  refine w_p (pc1 := 235) rfl rfl ?_
  refine w_p (pc1 := 236) (st1 := .int 2 :: _) rfl rfl ?_
  refine w_je (pc1 := 239) (vs := [.ref 176, .int 2]) (rest := []) (st1 := []) (m_200 (d := _) (sl := 0) (fun z => absurd M.2.1.2.1 z)) rfl rfl rfl (fun _ _ => rfl) rfl (by exact cl_v my_200 rfl rfl rfl (Nat.le_of_ble_eq_true rfl) rfl (MH_obj rfl rfl) rfl (by decide) rfl rfl) (by rfl) (Nat.le_of_ble_eq_true rfl) (Nat.le_of_ble_eq_true rfl) rfl (by rfl) ?_
  refine w_p (pc1 := 83) rfl rfl ?_
  refine w_p (pc1 := 84) rfl rfl ?_
  refine w_t (a := 242) (b := 87) rfl rfl rfl ?_
  refine w_p (pc1 := 9) rfl rfl ?_
  refine w_p (pc1 := 10) rfl rfl ?_
  refine w_t (a := 245) (b := 13) rfl rfl rfl ?_
  exact Wd_al (sb_0 (by simp) (by unfold wfa; simp)) (H _ hF)
set_option maxRecDepth 100000 in
theorem t177b (hk : kd B n s.1 = 47) (M : MK B n C0 C p b wb e s (W ++ [enX (10, 0)])) (H : Wd L xs (d + 4) y_223 (245, [(0, .ref 176)], [], MH C t, 0) P X) : Wd L xs (d + 4) y_223 (177, [(2, .int 1), (1, .int 1), (0, .ref 176)], [], MH C t, 0) P X := by
  refine w_p (pc1 := 178) rfl rfl ?_
  refine w_p (pc1 := 180) (st1 := .int 93 :: _) rfl rfl ?_
  refine w_je (pc1 := 183) (vs := [.ref 176, .int 93]) (rest := []) (st1 := [.int 1]) (m_210t (d := _) (sl := 0) (c := 93) ((sg_k (k := 47) M.2.1 (by decide) (by decide)).trans (decide_eq_true hk))) rfl rfl rfl (fun _ _ => rfl) rfl (by exact cl_v my_210 rfl rfl rfl (Nat.le_of_ble_eq_true rfl) rfl (MH_obj rfl rfl) rfl (by decide) rfl rfl) (by rfl) (Nat.le_of_ble_eq_true rfl) (Nat.le_of_ble_eq_true rfl) rfl (by rfl) ?_
  refine w_f (a := 221) (b := 186) rfl rfl rfl ?_
  refine w_p (pc1 := 187) rfl rfl ?_
  refine w_je (pc1 := 190) (vs := [.ref 176]) (rest := []) (st1 := [.int 10]) (tM (d := _) (x := (10, 0)) M) rfl rfl rfl (fun _ _ => rfl) rfl (by exact cl_v my_233 rfl rfl rfl (Nat.le_of_ble_eq_true rfl) rfl (MH_obj rfl rfl) rfl (by decide) rfl rfl) (by rfl) (Nat.le_of_ble_eq_true rfl) (Nat.le_of_ble_eq_true rfl) rfl (by rfl) ?_
  refine w_p (pc1 := 191) (st1 := .int 2 :: _) rfl rfl ?_
  refine w_t (a := 221) (b := 194) rfl rfl rfl ?_
  refine w_p (pc1 := 222) (st1 := .int 0 :: _) rfl rfl ?_
  refine w_p (pc1 := 223) (al1 := [(2, .int 0), (1, .int 1), (0, .ref 176)]) rfl rfl ?_
  refine w_p (pc1 := 224) (st1 := .int 0 :: _) rfl rfl ?_
  refine w_p (pc1 := 225) (al1 := [(1, .int 0), (2, .int 0), (0, .ref 176)]) rfl rfl ?_
  refine w_p (pc1 := 226) rfl rfl ?_
  refine w_je (pc1 := 229) (vs := [.ref 176]) (rest := []) (st1 := [.int 10]) (tM (d := _) (x := (10, 0)) M) rfl rfl rfl (fun _ _ => rfl) rfl (by exact cl_v my_233 rfl rfl rfl (Nat.le_of_ble_eq_true rfl) rfl (MH_obj rfl rfl) rfl (by decide) rfl rfl) (by rfl) (Nat.le_of_ble_eq_true rfl) (Nat.le_of_ble_eq_true rfl) rfl (by rfl) ?_
  refine w_p (pc1 := 231) (st1 := .int 10 :: _) rfl rfl ?_
  refine w_t (a := 83) (b := 234) rfl rfl rfl ?_
  refine w_p (pc1 := 84) rfl rfl ?_
  refine w_t (a := 242) (b := 87) rfl rfl rfl ?_
  refine w_p (pc1 := 9) rfl rfl ?_
  refine w_p (pc1 := 10) rfl rfl ?_
  refine w_t (a := 245) (b := 13) rfl rfl rfl ?_
  exact Wd_al (sb_0 (by simp) (by unfold wfa; simp)) H
set_option maxRecDepth 100000 in
theorem t177d (hk : kd B n s.1 ≠ 47) (M : MK B n C0 C p b wb e s (W ++ [enX (10, 0)])) (H : Wd L xs (d + 4) y_223 (245, [(0, .ref 176)], [], MH C t, 0) P X) : Wd L xs (d + 4) y_223 (177, [(2, .int 1), (1, .int 1), (0, .ref 176)], [], MH C t, 0) P X := by
  refine w_p (pc1 := 178) rfl rfl ?_
  refine w_p (pc1 := 180) (st1 := .int 93 :: _) rfl rfl ?_
  refine w_je (pc1 := 183) (vs := [.ref 176, .int 93]) (rest := []) (st1 := [.int 0]) (m_210f (d := _) (sl := 0) (c := 93) ((sg_k (k := 47) M.2.1 (by decide) (by decide)).trans (decide_eq_false hk))) rfl rfl rfl (fun _ _ => rfl) rfl (by exact cl_v my_210 rfl rfl rfl (Nat.le_of_ble_eq_true rfl) rfl (MH_obj rfl rfl) rfl (by decide) rfl rfl) (by rfl) (Nat.le_of_ble_eq_true rfl) (Nat.le_of_ble_eq_true rfl) rfl (by rfl) ?_
  refine w_t (a := 221) (b := 186) rfl rfl rfl ?_
  refine w_p (pc1 := 222) (st1 := .int 0 :: _) rfl rfl ?_
  refine w_p (pc1 := 223) (al1 := [(2, .int 0), (1, .int 1), (0, .ref 176)]) rfl rfl ?_
  refine w_p (pc1 := 224) (st1 := .int 0 :: _) rfl rfl ?_
  refine w_p (pc1 := 225) (al1 := [(1, .int 0), (2, .int 0), (0, .ref 176)]) rfl rfl ?_
  refine w_p (pc1 := 226) rfl rfl ?_
  refine w_je (pc1 := 229) (vs := [.ref 176]) (rest := []) (st1 := [.int 10]) (tM (d := _) (x := (10, 0)) M) rfl rfl rfl (fun _ _ => rfl) rfl (by exact cl_v my_233 rfl rfl rfl (Nat.le_of_ble_eq_true rfl) rfl (MH_obj rfl rfl) rfl (by decide) rfl rfl) (by rfl) (Nat.le_of_ble_eq_true rfl) (Nat.le_of_ble_eq_true rfl) rfl (by rfl) ?_
  refine w_p (pc1 := 231) (st1 := .int 10 :: _) rfl rfl ?_
  refine w_t (a := 83) (b := 234) rfl rfl rfl ?_
  refine w_p (pc1 := 84) rfl rfl ?_
  refine w_t (a := 242) (b := 87) rfl rfl rfl ?_
  refine w_p (pc1 := 9) rfl rfl ?_
  refine w_p (pc1 := 10) rfl rfl ?_
  refine w_t (a := 245) (b := 13) rfl rfl rfl ?_
  exact Wd_al (sb_0 (by simp) (by unfold wfa; simp)) H
set_option maxRecDepth 100000 in
theorem t245M (M : MK B n C0 C p b wb (e + 1) s (W ++ [(10, 0)])) (H : ∀ C', MK B n C0 C' p b wb e s W → P none (MH C' t) 0) : Wd L xs d y_223 (245, [(0, .ref 176)], [], MH C t, 0) P X := by
  have ht := MK_top M
  refine w_p (pc1 := 246) rfl rfl ?_
  refine w_m0 (pc1 := 249) (st1 := .int 0 :: _) rfl rfl (h_gIe (j := 8) rfl rfl rfl rfl rfl (M.2.1.2.1)) rfl ?_
  refine w_f (a := 262) (b := 252) rfl rfl rfl ?_
  refine w_p (pc1 := 253) rfl rfl ?_
  refine w_p (pc1 := 254) rfl rfl ?_
  refine w_m0 (pc1 := 257) (st1 := .int (nI (wb + W.length + 1)) :: _) rfl rfl (h_gIe (j := 52) rfl rfl rfl rfl rfl (ht.1)) rfl ?_
  refine w_p (pc1 := 258) (st1 := .int 1 :: _) rfl rfl ?_
  refine w_isub (pc1 := 259) (z := nI (wb + W.length)) rfl (nK_sub (Nat.le_add_left 1 _)) rfl ?_
  refine w_m0 (pc1 := 262) rfl rfl (h_pI (j := 52) rfl rfl rfl rfl rfl rfl rfl ⟨rfl, rfl⟩ rfl) rfl ?_
  refine w_r rfl rfl rfl (fun _ _ => rfl) rfl ?_
  exact H _ (MK_q M)
set_option maxRecDepth 100000 in
theorem t245F (F : FM B n C0 C p b wb f c i) (H : P none (MH C t) 0) : Wd L xs d y_223 (245, [(0, .ref 176)], [], MH C t, 0) P X := by
  have h0 : C.1 76 8 ≠ 0 := by rw [F.1.2.1]; exact F.1.1
  refine w_p (pc1 := 246) rfl rfl ?_
  refine w_m0 (pc1 := 249) rfl rfl (h_gI (j := 8) rfl rfl rfl rfl rfl) rfl ?_
  refine w_t (a := 262) (b := 252) (cb_ne_t (by exact h0)) rfl rfl ?_
  refine w_r rfl rfl rfl (fun _ _ => rfl) rfl ?_
  exact H
set_option maxRecDepth 100000 in
theorem t0 (M : MK B n C0 C p b wb e s W) (he : e < 12) (H : ∀ C', MK B n C0 C' p b wb (e + 1) s (W ++ [(10, 0)]) → Wd L xs (d + 1) y_223 (9, [(1, .int 1), (0, .ref 176)], [], MH C' t, 0) P X) : Wd L xs (d + 1) y_223 (0, [(0, .ref 176)], [], MH C t, 0) P X := by
  refine w_p (pc1 := 1) rfl rfl ?_
  refine w_p (pc1 := 3) (st1 := .int 10 :: _) rfl rfl ?_
  refine w_p (pc1 := 4) (st1 := .long 0 :: _) rfl rfl ?_
  refine w_ji (pc1 := 7) (vs := [.ref 176, .int 10, .long 0]) (rest := []) (pM (d := _) M he) rfl rfl rfl (fun _ _ => rfl) rfl (by exact cl_v my_224 rfl rfl rfl (Nat.le_of_ble_eq_true rfl) rfl (MH_obj rfl rfl) rfl (by decide) rfl rfl) (by rfl) (Nat.le_of_ble_eq_true rfl) (Nat.le_of_ble_eq_true rfl) rfl (fun v h1 d1 hq => ?_) (fun _ _ _ e => e.elim)
  rcases hq with ⟨hv, ⟨C1, M1, hh⟩, hn⟩
  · subst hv; subst hh; subst hn
    refine w_p (pc1 := 8) (st1 := .int 1 :: _) rfl rfl ?_
    refine w_p (pc1 := 9) (al1 := [(1, .int 1), (0, .ref 176)]) rfl rfl ?_
    exact H _ M1
end MTE
