/-! THE OTHER SIDE'S FORMULAS, 11: the pieces of readSum -/
section MSU
variable {L : Nat} {xs : Nat → Int32} {t : ab_H} {d n p b wb e f : Nat} {B : Nat → Nat} {C0 C : co_T} {s y z : fs_T} {V W : List (Int32 × Int64)} {c : Int32} {i : Nat} {x0 : Nat × Int64} {R : List (Nat × Int64)} {P : Option Value → ab_H → Nat → Prop} {X : Nat → ab_H → Nat → Prop}
set_option maxRecDepth 100000 in
theorem dn_1 {x : Nat × Int64} {s : fs_T} : (dn x s).1 = s.1 := by
  unfold dn
  split
  · rfl
  · split
    · rfl
    · split
      · rfl
      · split <;> rfl
set_option maxRecDepth 100000 in
theorem fold_1 : ∀ (R : List (Nat × Int64)) (s : fs_T), (R.foldl (fun s x => dn x s) s).1 = s.1
  | [], _ => rfl
  | x :: R, s => (fold_1 R (dn x s)).trans dn_1
set_option maxRecDepth 100000 in
theorem sb_0 {a : Value} {al : List (Nat × Value)} (h : (0, a) ∈ al) (hw : wfa al) : sba [(0, a)] al := ⟨fun q hq => by rw [List.mem_singleton] at hq; rw [hq]; exact h, hw⟩
set_option maxRecDepth 100000 in
theorem sb_48 {a b c u v : Value} : sba [(2, c), (1, a), (0, b)] [(4, u), (3, v), (2, c), (1, a), (0, b)] := by
  refine ⟨fun q hq => ?_, ?_⟩
  · simp only [List.mem_cons, List.not_mem_nil, or_false] at hq ⊢
    rcases hq with rfl | rfl | rfl <;> simp
  · unfold wfa
    simp
set_option maxRecDepth 100000 in
theorem r9F {a : Int32} (F : FM B n C0 C p b wb f c i) (H : Wd L xs d y_228 (225, [(0, .ref 176)], [], MH C t, 0) P X) : Wd L xs d y_228 (9, [(1, .int a), (0, .ref 176)], [], MH C t, 0) P X := by
  have h0 : C.1 76 8 ≠ 0 := by rw [F.1.2.1]; exact F.1.1
  refine w_p (pc1 := 10) rfl rfl ?_
  refine w_b (a := 225) (b := 13) rfl rfl (fun c10 => ?_) (fun c10 => ?_)
  · replace c10 := cc_eq_t c10
    exact Wd_al (sb_0 (by simp) (by unfold wfa; simp)) H
  · replace c10 := cc_eq_f c10
    refine w_p (pc1 := 14) rfl rfl ?_
    refine w_m0 (pc1 := 17) rfl rfl (h_gI (j := 8) rfl rfl rfl rfl rfl) rfl ?_
    refine w_t (a := 225) (b := 20) (cb_ne_t (by exact h0)) rfl rfl ?_
    exact Wd_al (sb_0 (by simp) (by unfold wfa; simp)) H
set_option maxRecDepth 100000 in
theorem r24z (H : Wd L xs d y_228 (9, [(1, .int 1), (0, .ref 176)], [], MH C t, 0) P X) : Wd L xs d y_228 (24, [(1, .int 1), (0, .ref 176)], [.int 0], MH C t, 0) P X := by
  refine w_f (a := 30) (b := 27) rfl rfl rfl ?_
  refine w_p (pc1 := 9) rfl rfl ?_
  exact H
set_option maxRecDepth 100000 in
theorem r32F (F : FM B n C0 C p b wb f c i) (H : Wd L xs d y_228 (225, [(0, .ref 176)], [], MH C t, 0) P X) : Wd L xs d y_228 (32, [(2, .int 1), (1, .int 1), (0, .ref 176)], [], MH C t, 0) P X := by
  have h0 : C.1 76 8 ≠ 0 := by rw [F.1.2.1]; exact F.1.1
  refine w_p (pc1 := 33) rfl rfl ?_
  refine w_f (a := 222) (b := 36) rfl rfl rfl ?_
  refine w_p (pc1 := 37) rfl rfl ?_
  refine w_m0 (pc1 := 40) rfl rfl (h_gI (j := 8) rfl rfl rfl rfl rfl) rfl ?_
  refine w_t (a := 222) (b := 43) (cb_ne_t (by exact h0)) rfl rfl ?_
  refine w_p (pc1 := 9) rfl rfl ?_
  refine w_p (pc1 := 10) rfl rfl ?_
  refine w_f (a := 225) (b := 13) rfl rfl rfl ?_
  refine w_p (pc1 := 14) rfl rfl ?_
  refine w_m0 (pc1 := 17) rfl rfl (h_gI (j := 8) rfl rfl rfl rfl rfl) rfl ?_
  refine w_t (a := 225) (b := 20) (cb_ne_t (by exact h0)) rfl rfl ?_
  exact Wd_al (sb_0 (by simp) (by unfold wfa; simp)) H
set_option maxRecDepth 100000 in
theorem r24F (F : FM B n C0 C p b wb f c i) (H : Wd L xs d y_228 (225, [(0, .ref 176)], [], MH C t, 0) P X) : Wd L xs d y_228 (24, [(1, .int 1), (0, .ref 176)], [.int 1], MH C t, 0) P X := by
  refine w_t (a := 30) (b := 27) rfl rfl rfl ?_
  refine w_p (pc1 := 31) (st1 := .int 1 :: _) rfl rfl ?_
  refine w_p (pc1 := 32) (al1 := [(2, .int 1), (1, .int 1), (0, .ref 176)]) rfl rfl ?_
  exact r32F F H
set_option maxRecDepth 100000 in
theorem r32M (h0 : stX 3 x0) (h10 : x0.1 ≤ 10) (hR : ∀ x, x ∈ R → okX 3 x) (hc : c34 R ≤ s.2.2.1) (M : MK B n C0 C p b wb (e + 1) s (V ++ [enX x0] ++ (R.map enX).reverse)) (H : ∀ C', MK B n C0 C' p b wb (e + 1) (R.foldl (fun s x => dn x s) s) (V ++ [enX x0]) → Wd L xs (d + 3) y_228 (48, [(2, .int 1), (1, .int 1), (0, .ref 176)], [], MH C' t, 0) P X) : Wd L xs (d + 3) y_228 (32, [(2, .int 1), (1, .int 1), (0, .ref 176)], [], MH C t, 0) P X := by
  refine w_p (pc1 := 33) rfl rfl ?_
  refine w_f (a := 222) (b := 36) rfl rfl rfl ?_
  refine w_p (pc1 := 37) rfl rfl ?_
  refine w_m0 (pc1 := 40) (st1 := .int 0 :: _) rfl rfl (h_gIe (j := 8) rfl rfl rfl rfl rfl (M.2.1.2.1)) rfl ?_
  refine w_f (a := 222) (b := 43) rfl rfl rfl ?_
  refine w_p (pc1 := 44) rfl rfl ?_
  refine w_p (pc1 := 45) (st1 := .int 3 :: _) rfl rfl ?_
  refine w_ji (pc1 := 48) (vs := [.ref 176, .int 3]) (rest := []) (dTo (h := 3) (d := _) (by decide) h0 h10 R s C hR hc M) rfl rfl rfl (fun _ _ => rfl) rfl (by exact cl_v my_232 rfl rfl rfl (Nat.le_of_ble_eq_true rfl) rfl (MH_obj rfl rfl) rfl (by decide) rfl rfl) (by rfl) (Nat.le_of_ble_eq_true rfl) (Nat.le_of_ble_eq_true rfl) rfl (fun v h1 d1 hq => ?_) (fun _ _ _ e => e.elim)
  rcases hq with ⟨hv, ⟨C1, M1, hh⟩, hn⟩
  · subst hv; subst hh; subst hn
    exact H _ M1
set_option maxRecDepth 100000 in
theorem r24M (h0 : stX 3 x0) (h10 : x0.1 ≤ 10) (hR : ∀ x, x ∈ R → okX 3 x) (hc : c34 R ≤ s.2.2.1) (M : MK B n C0 C p b wb (e + 1) s (V ++ [enX x0] ++ (R.map enX).reverse)) (H : ∀ C', MK B n C0 C' p b wb (e + 1) (R.foldl (fun s x => dn x s) s) (V ++ [enX x0]) → Wd L xs (d + 3) y_228 (48, [(2, .int 1), (1, .int 1), (0, .ref 176)], [], MH C' t, 0) P X) : Wd L xs (d + 3) y_228 (24, [(1, .int 1), (0, .ref 176)], [.int 1], MH C t, 0) P X := by
  refine w_t (a := 30) (b := 27) rfl rfl rfl ?_
  refine w_p (pc1 := 31) (st1 := .int 1 :: _) rfl rfl ?_
  refine w_p (pc1 := 32) (al1 := [(2, .int 1), (1, .int 1), (0, .ref 176)]) rfl rfl ?_
  exact r32M h0 h10 hR hc M H
set_option maxRecDepth 100000 in
theorem r9 {Q : Option Value → ab_H → Nat → Prop} (M : MK B n C0 C p b wb e s W) (hF : Wd L xs (d + 6) y_229 (0, [(0, .ref 176)], [], MH C t, 0) Q nX) (H : ∀ v h m, Q v h m → Wd L xs (d + 7) y_228 (24, [(1, .int 1), (0, .ref 176)], v.toList ++ [], h, 0 + m) P X) : Wd L xs (d + 7) y_228 (9, [(1, .int 1), (0, .ref 176)], [], MH C t, 0) P X := by
  refine w_p (pc1 := 10) rfl rfl ?_
  refine w_f (a := 225) (b := 13) rfl rfl rfl ?_
  refine w_p (pc1 := 14) rfl rfl ?_
  refine w_m0 (pc1 := 17) (st1 := .int 0 :: _) rfl rfl (h_gIe (j := 8) rfl rfl rfl rfl rfl (M.2.1.2.1)) rfl ?_
  refine w_f (a := 225) (b := 20) rfl rfl rfl ?_
  refine w_p (pc1 := 21) rfl rfl ?_
  refine w_ji (pc1 := 24) (vs := [.ref 176]) (rest := []) (hF) rfl rfl rfl (fun _ _ => rfl) rfl (by exact cl_v my_229 rfl rfl rfl (Nat.le_of_ble_eq_true rfl) rfl (MH_obj rfl rfl) rfl (by decide) rfl rfl) (by rfl) (Nat.le_of_ble_eq_true rfl) (Nat.le_of_ble_eq_true rfl) rfl (fun v h m hq => H v h m hq) (fun _ _ _ e => e.elim)
set_option maxRecDepth 100000 in
theorem r48_58 (hk : kd B n s.1 = 58) (h0 : stX 5 x0) (h10 : x0.1 ≤ 10) (hR : ∀ x, x ∈ R → okX 5 x) (hc : c34 R ≤ s.2.2.1) (M : MK B n C0 C p b wb (e + 1) s (V ++ [enX x0] ++ (R.map enX).reverse)) (h6 : s.1 < 600) (he : e < 11) (h1 : spd (R.foldl (fun s x => dn x s) s) = .inr y) (H : ∀ C', ((kd B n (s.1 + 1) ≠ 1 ∧ MK B n C0 C' p b wb (e + 1) (nxt y) (V ++ [enX x0] ++ [enX (5, 42)])) ∨ (kd B n (s.1 + 1) = 1 ∧ FM B n C0 C' p b wb 0 1 (s.1 + 1))) → Wd L xs (d + 4) y_228 (9, [(1, .int 1), (0, .ref 176)], [], MH C' t, 0) P X) : Wd L xs (d + 4) y_228 (48, [(2, .int 1), (1, .int 1), (0, .ref 176)], [], MH C t, 0) P X := by
  have hf : (R.foldl (fun s x => dn x s) s).1 = s.1 := fold_1 R s
  have hy : y.1 = s.1 := (spd_s h1).1.trans hf
  have hky : kd B n y.1 = 58 := by rw [hy]; exact hk
  refine w_p (pc1 := 49) rfl rfl ?_
  refine w_p (pc1 := 51) (st1 := .int 42 :: _) rfl rfl ?_
  refine w_je (pc1 := 54) (vs := [.ref 176, .int 42]) (rest := []) (st1 := [.int 1]) (m_210t (d := _) (sl := 0) (c := 42) ((sg_k (k := 58) M.2.1 (by decide) (by decide)).trans (decide_eq_true hk))) rfl rfl rfl (fun _ _ => rfl) rfl (by exact cl_v my_210 rfl rfl rfl (Nat.le_of_ble_eq_true rfl) rfl (MH_obj rfl rfl) rfl (by decide) rfl rfl) (by rfl) (Nat.le_of_ble_eq_true rfl) (Nat.le_of_ble_eq_true rfl) rfl (by rfl) ?_
  refine w_t (a := 66) (b := 57) rfl rfl rfl ?_
  refine w_p (pc1 := 67) (st1 := .int 1 :: _) rfl rfl ?_
  refine w_p (pc1 := 71) rfl rfl ?_
  refine w_p (pc1 := 72) (al1 := [(3, .int 1), (2, .int 1), (1, .int 1), (0, .ref 176)]) rfl rfl ?_
  refine w_p (pc1 := 73) rfl rfl ?_
  refine w_p (pc1 := 75) (st1 := .int 43 :: _) rfl rfl ?_
  refine w_je (pc1 := 78) (vs := [.ref 176, .int 43]) (rest := []) (st1 := [.int 0]) (m_210f (d := _) (sl := 0) (c := 43) ((sg_k (k := 56) M.2.1 (by decide) (by decide)).trans (decide_eq_false (by rw [hk]; decide)))) rfl rfl rfl (fun _ _ => rfl) rfl (by exact cl_v my_210 rfl rfl rfl (Nat.le_of_ble_eq_true rfl) rfl (MH_obj rfl rfl) rfl (by decide) rfl rfl) (by rfl) (Nat.le_of_ble_eq_true rfl) (Nat.le_of_ble_eq_true rfl) rfl (by rfl) ?_
  refine w_f (a := 90) (b := 81) rfl rfl rfl ?_
  refine w_p (pc1 := 82) rfl rfl ?_
  refine w_p (pc1 := 84) (st1 := .int 45 :: _) rfl rfl ?_
  refine w_je (pc1 := 87) (vs := [.ref 176, .int 45]) (rest := []) (st1 := [.int 0]) (m_210f (d := _) (sl := 0) (c := 45) ((sg_k (k := 57) M.2.1 (by decide) (by decide)).trans (decide_eq_false (by rw [hk]; decide)))) rfl rfl rfl (fun _ _ => rfl) rfl (by exact cl_v my_210 rfl rfl rfl (Nat.le_of_ble_eq_true rfl) rfl (MH_obj rfl rfl) rfl (by decide) rfl rfl) (by rfl) (Nat.le_of_ble_eq_true rfl) (Nat.le_of_ble_eq_true rfl) rfl (by rfl) ?_
  refine w_t (a := 94) (b := 90) rfl rfl rfl ?_
  refine w_p (pc1 := 95) (st1 := .int 0 :: _) rfl rfl ?_
  refine w_p (pc1 := 97) (al1 := [(4, .int 0), (3, .int 1), (2, .int 1), (1, .int 1), (0, .ref 176)]) rfl rfl ?_
  refine w_p (pc1 := 98) rfl rfl ?_
  refine w_t (a := 106) (b := 101) rfl rfl rfl ?_
  refine w_p (pc1 := 107) rfl rfl ?_
  refine w_p (pc1 := 108) rfl rfl ?_
  refine w_f (a := 115) (b := 111) rfl rfl rfl ?_
  refine w_p (pc1 := 112) (st1 := .int 5 :: _) rfl rfl ?_
  refine w_p (pc1 := 117) rfl rfl ?_
  refine w_ji (pc1 := 120) (vs := [.ref 176, .int 5]) (rest := []) (dTo (h := 5) (d := _) (by decide) h0 h10 R s C hR hc M) rfl rfl rfl (fun _ _ => rfl) rfl (by exact cl_v my_232 rfl rfl rfl (Nat.le_of_ble_eq_true rfl) rfl (MH_obj rfl rfl) rfl (by decide) rfl rfl) (by rfl) (Nat.le_of_ble_eq_true rfl) (Nat.le_of_ble_eq_true rfl) rfl (fun v h1 d1 hq => ?_) (fun _ _ _ e => e.elim)
  rcases hq with ⟨hv, ⟨C1, M1, hh⟩, hn⟩
  · subst hv; subst hh; subst hn
    refine w_p (pc1 := 121) rfl rfl ?_
    refine w_ji (pc1 := 124) (vs := [.ref 176]) (rest := []) (dM (d := _) M1 h1) rfl rfl rfl (fun _ _ => rfl) rfl (by exact cl_v my_226 rfl rfl rfl (Nat.le_of_ble_eq_true rfl) rfl (MH_obj rfl rfl) rfl (by decide) rfl rfl) (by rfl) (Nat.le_of_ble_eq_true rfl) (Nat.le_of_ble_eq_true rfl) rfl (fun v h1 d1 hq => ?_) (fun _ _ _ e => e.elim)
    rcases hq with ⟨hv, ⟨C2, M2, hh⟩, hn⟩
    · subst hv; subst hh; subst hn
      refine w_p (pc1 := 125) rfl rfl ?_
      refine w_p (pc1 := 126) rfl rfl ?_
      refine w_f (a := 133) (b := 129) rfl rfl rfl ?_
      refine w_p (pc1 := 130) (st1 := .int 5 :: _) rfl rfl ?_
      refine w_p (pc1 := 135) rfl rfl ?_
      refine w_p (pc1 := 136) rfl rfl ?_
      refine w_m0 (pc1 := 139) (st1 := .long (42) :: _) rfl rfl (h_gJe (j := 7) rfl rfl rfl rfl rfl (by rw [M2.2.1.2.2.2.1, ← kd_get (by rw [hky]; decide), hky]; rfl)) rfl ?_
      refine w_ji (pc1 := 142) (vs := [.ref 176, .int 5, .long (42)]) (rest := []) (pM (d := _) M2 (by omega)) rfl rfl rfl (fun _ _ => rfl) rfl (by exact cl_v my_224 rfl rfl rfl (Nat.le_of_ble_eq_true rfl) rfl (MH_obj rfl rfl) rfl (by decide) rfl rfl) (by rfl) (Nat.le_of_ble_eq_true rfl) (Nat.le_of_ble_eq_true rfl) rfl (fun v h1 d1 hq => ?_) (fun _ _ _ e => e.elim)
      rcases hq with ⟨hv, ⟨C3, M3, hh⟩, hn⟩
      · subst hv; subst hh; subst hn
        refine w_p (pc1 := 143) rfl rfl ?_
        refine w_ji (pc1 := 146) (vs := [.ref 176]) (rest := []) (nA (d := _) M3 (show y.1 < 600 by rw [hy]; exact h6)) rfl rfl rfl (fun _ _ => rfl) rfl (by exact cl_v my_195 rfl rfl rfl (Nat.le_of_ble_eq_true rfl) rfl (MH_obj rfl rfl) rfl (by decide) rfl rfl) (by rfl) (Nat.le_of_ble_eq_true rfl) (Nat.le_of_ble_eq_true rfl) rfl (fun v h1 d1 hq => ?_) (fun _ _ _ e => e.elim)
        rcases hq with ⟨hv, ⟨C4, Q4, hh⟩, hn⟩
        · subst hv; subst hh; subst hn
          refine w_p (pc1 := 147) (st1 := .int 0 :: _) rfl rfl ?_
          refine w_p (pc1 := 148) (al1 := [(2, .int 0), (4, .int 0), (3, .int 1), (1, .int 1), (0, .ref 176)]) rfl rfl ?_
          refine w_p (pc1 := 219) rfl rfl ?_
          refine w_p (pc1 := 32) rfl rfl ?_
          refine w_p (pc1 := 33) rfl rfl ?_
          refine w_t (a := 222) (b := 36) rfl rfl rfl ?_
          refine w_p (pc1 := 9) rfl rfl ?_
          refine Wd_al sba_e (H _ ?_)
          have hy2 : (nxt y).1 = s.1 + 1 := by show y.1 + 1 = _; rw [hy]
          rw [hy2] at Q4
          exact Q4
set_option maxRecDepth 100000 in
theorem r48e_58 (hk : kd B n s.1 = 58) (h0 : stX 5 x0) (h10 : x0.1 ≤ 10) (hR : ∀ x, x ∈ R → okX 5 x) (hc : c34 R ≤ s.2.2.1) (M : MK B n C0 C p b wb (e + 1) s (V ++ [enX x0] ++ (R.map enX).reverse)) (h1 : spd (R.foldl (fun s x => dn x s) s) = .inl (c, i)) (H : ∀ C', FM B n C0 C' p b wb 2 c i → Wd L xs (d + 4) y_228 (9, [(1, .int 1), (0, .ref 176)], [], MH C' t, 0) P X) : Wd L xs (d + 4) y_228 (48, [(2, .int 1), (1, .int 1), (0, .ref 176)], [], MH C t, 0) P X := by
  refine w_p (pc1 := 49) rfl rfl ?_
  refine w_p (pc1 := 51) (st1 := .int 42 :: _) rfl rfl ?_
  refine w_je (pc1 := 54) (vs := [.ref 176, .int 42]) (rest := []) (st1 := [.int 1]) (m_210t (d := _) (sl := 0) (c := 42) ((sg_k (k := 58) M.2.1 (by decide) (by decide)).trans (decide_eq_true hk))) rfl rfl rfl (fun _ _ => rfl) rfl (by exact cl_v my_210 rfl rfl rfl (Nat.le_of_ble_eq_true rfl) rfl (MH_obj rfl rfl) rfl (by decide) rfl rfl) (by rfl) (Nat.le_of_ble_eq_true rfl) (Nat.le_of_ble_eq_true rfl) rfl (by rfl) ?_
  refine w_t (a := 66) (b := 57) rfl rfl rfl ?_
  refine w_p (pc1 := 67) (st1 := .int 1 :: _) rfl rfl ?_
  refine w_p (pc1 := 71) rfl rfl ?_
  refine w_p (pc1 := 72) (al1 := [(3, .int 1), (2, .int 1), (1, .int 1), (0, .ref 176)]) rfl rfl ?_
  refine w_p (pc1 := 73) rfl rfl ?_
  refine w_p (pc1 := 75) (st1 := .int 43 :: _) rfl rfl ?_
  refine w_je (pc1 := 78) (vs := [.ref 176, .int 43]) (rest := []) (st1 := [.int 0]) (m_210f (d := _) (sl := 0) (c := 43) ((sg_k (k := 56) M.2.1 (by decide) (by decide)).trans (decide_eq_false (by rw [hk]; decide)))) rfl rfl rfl (fun _ _ => rfl) rfl (by exact cl_v my_210 rfl rfl rfl (Nat.le_of_ble_eq_true rfl) rfl (MH_obj rfl rfl) rfl (by decide) rfl rfl) (by rfl) (Nat.le_of_ble_eq_true rfl) (Nat.le_of_ble_eq_true rfl) rfl (by rfl) ?_
  refine w_f (a := 90) (b := 81) rfl rfl rfl ?_
  refine w_p (pc1 := 82) rfl rfl ?_
  refine w_p (pc1 := 84) (st1 := .int 45 :: _) rfl rfl ?_
  refine w_je (pc1 := 87) (vs := [.ref 176, .int 45]) (rest := []) (st1 := [.int 0]) (m_210f (d := _) (sl := 0) (c := 45) ((sg_k (k := 57) M.2.1 (by decide) (by decide)).trans (decide_eq_false (by rw [hk]; decide)))) rfl rfl rfl (fun _ _ => rfl) rfl (by exact cl_v my_210 rfl rfl rfl (Nat.le_of_ble_eq_true rfl) rfl (MH_obj rfl rfl) rfl (by decide) rfl rfl) (by rfl) (Nat.le_of_ble_eq_true rfl) (Nat.le_of_ble_eq_true rfl) rfl (by rfl) ?_
  refine w_t (a := 94) (b := 90) rfl rfl rfl ?_
  refine w_p (pc1 := 95) (st1 := .int 0 :: _) rfl rfl ?_
  refine w_p (pc1 := 97) (al1 := [(4, .int 0), (3, .int 1), (2, .int 1), (1, .int 1), (0, .ref 176)]) rfl rfl ?_
  refine w_p (pc1 := 98) rfl rfl ?_
  refine w_t (a := 106) (b := 101) rfl rfl rfl ?_
  refine w_p (pc1 := 107) rfl rfl ?_
  refine w_p (pc1 := 108) rfl rfl ?_
  refine w_f (a := 115) (b := 111) rfl rfl rfl ?_
  refine w_p (pc1 := 112) (st1 := .int 5 :: _) rfl rfl ?_
  refine w_p (pc1 := 117) rfl rfl ?_
  refine w_ji (pc1 := 120) (vs := [.ref 176, .int 5]) (rest := []) (dTo (h := 5) (d := _) (by decide) h0 h10 R s C hR hc M) rfl rfl rfl (fun _ _ => rfl) rfl (by exact cl_v my_232 rfl rfl rfl (Nat.le_of_ble_eq_true rfl) rfl (MH_obj rfl rfl) rfl (by decide) rfl rfl) (by rfl) (Nat.le_of_ble_eq_true rfl) (Nat.le_of_ble_eq_true rfl) rfl (fun v h1 d1 hq => ?_) (fun _ _ _ e => e.elim)
  rcases hq with ⟨hv, ⟨C1, M1, hh⟩, hn⟩
  · subst hv; subst hh; subst hn
    refine w_p (pc1 := 121) rfl rfl ?_
    refine w_ji (pc1 := 124) (vs := [.ref 176]) (rest := []) (dE (d := _) M1 h1) rfl rfl rfl (fun _ _ => rfl) rfl (by exact cl_v my_226 rfl rfl rfl (Nat.le_of_ble_eq_true rfl) rfl (MH_obj rfl rfl) rfl (by decide) rfl rfl) (by rfl) (Nat.le_of_ble_eq_true rfl) (Nat.le_of_ble_eq_true rfl) rfl (fun v h1 d1 hq => ?_) (fun _ _ _ e => e.elim)
    rcases hq with ⟨hv, ⟨C2, F2, hh⟩, hn⟩
    · subst hv; subst hh; subst hn
      refine w_p (pc1 := 125) rfl rfl ?_
      refine w_p (pc1 := 126) rfl rfl ?_
      refine w_f (a := 133) (b := 129) rfl rfl rfl ?_
      refine w_p (pc1 := 130) (st1 := .int 5 :: _) rfl rfl ?_
      refine w_p (pc1 := 135) rfl rfl ?_
      refine w_p (pc1 := 136) rfl rfl ?_
      refine w_m0 (pc1 := 139) rfl rfl (h_gJ (j := 7) rfl rfl rfl rfl rfl) rfl ?_
      refine w_ji (pc1 := 142) (vs := [.ref 176, .int 5, _]) (rest := []) (pF (d := _) F2 (by omega)) rfl rfl rfl (fun _ _ => rfl) rfl (by exact cl_v my_224 rfl rfl rfl (Nat.le_of_ble_eq_true rfl) rfl (MH_obj rfl rfl) rfl (by decide) rfl rfl) (by rfl) (Nat.le_of_ble_eq_true rfl) (Nat.le_of_ble_eq_true rfl) rfl (fun v h1 d1 hq => ?_) (fun _ _ _ e => e.elim)
      rcases hq with ⟨hv, ⟨C3, F3, hh⟩, hn⟩
      · subst hv; subst hh; subst hn
        refine w_p (pc1 := 143) rfl rfl ?_
        refine w_ji (pc1 := 146) (vs := [.ref 176]) (rest := []) (nF (d := _) F3) rfl rfl rfl (fun _ _ => rfl) rfl (by exact cl_v my_195 rfl rfl rfl (Nat.le_of_ble_eq_true rfl) rfl (MH_obj rfl rfl) rfl (by decide) rfl rfl) (by rfl) (Nat.le_of_ble_eq_true rfl) (Nat.le_of_ble_eq_true rfl) rfl (fun v h1 d1 hq => ?_) (fun _ _ _ e => e.elim)
        rcases hq with ⟨hv, ⟨C4, F4, hh⟩, hn⟩
        · subst hv; subst hh; subst hn
          refine w_p (pc1 := 147) (st1 := .int 0 :: _) rfl rfl ?_
          refine w_p (pc1 := 148) (al1 := [(2, .int 0), (4, .int 0), (3, .int 1), (1, .int 1), (0, .ref 176)]) rfl rfl ?_
          refine w_p (pc1 := 219) rfl rfl ?_
          refine w_p (pc1 := 32) rfl rfl ?_
          refine w_p (pc1 := 33) rfl rfl ?_
          refine w_t (a := 222) (b := 36) rfl rfl rfl ?_
          refine w_p (pc1 := 9) rfl rfl ?_
          exact Wd_al sba_e (H _ F4)
set_option maxRecDepth 100000 in
theorem r48_59 (hk : kd B n s.1 = 59) (h0 : stX 5 x0) (h10 : x0.1 ≤ 10) (hR : ∀ x, x ∈ R → okX 5 x) (hc : c34 R ≤ s.2.2.1) (M : MK B n C0 C p b wb (e + 1) s (V ++ [enX x0] ++ (R.map enX).reverse)) (h6 : s.1 < 600) (he : e < 11) (h1 : spd (R.foldl (fun s x => dn x s) s) = .inr y) (H : ∀ C', ((kd B n (s.1 + 1) ≠ 1 ∧ MK B n C0 C' p b wb (e + 1) (nxt y) (V ++ [enX x0] ++ [enX (5, 47)])) ∨ (kd B n (s.1 + 1) = 1 ∧ FM B n C0 C' p b wb 0 1 (s.1 + 1))) → Wd L xs (d + 4) y_228 (9, [(1, .int 1), (0, .ref 176)], [], MH C' t, 0) P X) : Wd L xs (d + 4) y_228 (48, [(2, .int 1), (1, .int 1), (0, .ref 176)], [], MH C t, 0) P X := by
  have hf : (R.foldl (fun s x => dn x s) s).1 = s.1 := fold_1 R s
  have hy : y.1 = s.1 := (spd_s h1).1.trans hf
  have hky : kd B n y.1 = 59 := by rw [hy]; exact hk
  refine w_p (pc1 := 49) rfl rfl ?_
  refine w_p (pc1 := 51) (st1 := .int 42 :: _) rfl rfl ?_
  refine w_je (pc1 := 54) (vs := [.ref 176, .int 42]) (rest := []) (st1 := [.int 0]) (m_210f (d := _) (sl := 0) (c := 42) ((sg_k (k := 58) M.2.1 (by decide) (by decide)).trans (decide_eq_false (by rw [hk]; decide)))) rfl rfl rfl (fun _ _ => rfl) rfl (by exact cl_v my_210 rfl rfl rfl (Nat.le_of_ble_eq_true rfl) rfl (MH_obj rfl rfl) rfl (by decide) rfl rfl) (by rfl) (Nat.le_of_ble_eq_true rfl) (Nat.le_of_ble_eq_true rfl) rfl (by rfl) ?_
  refine w_f (a := 66) (b := 57) rfl rfl rfl ?_
  refine w_p (pc1 := 58) rfl rfl ?_
  refine w_p (pc1 := 60) (st1 := .int 47 :: _) rfl rfl ?_
  refine w_je (pc1 := 63) (vs := [.ref 176, .int 47]) (rest := []) (st1 := [.int 1]) (m_210t (d := _) (sl := 0) (c := 47) ((sg_k (k := 59) M.2.1 (by decide) (by decide)).trans (decide_eq_true hk))) rfl rfl rfl (fun _ _ => rfl) rfl (by exact cl_v my_210 rfl rfl rfl (Nat.le_of_ble_eq_true rfl) rfl (MH_obj rfl rfl) rfl (by decide) rfl rfl) (by rfl) (Nat.le_of_ble_eq_true rfl) (Nat.le_of_ble_eq_true rfl) rfl (by rfl) ?_
  refine w_f (a := 70) (b := 66) rfl rfl rfl ?_
  refine w_p (pc1 := 67) (st1 := .int 1 :: _) rfl rfl ?_
  refine w_p (pc1 := 71) rfl rfl ?_
  refine w_p (pc1 := 72) (al1 := [(3, .int 1), (2, .int 1), (1, .int 1), (0, .ref 176)]) rfl rfl ?_
  refine w_p (pc1 := 73) rfl rfl ?_
  refine w_p (pc1 := 75) (st1 := .int 43 :: _) rfl rfl ?_
  refine w_je (pc1 := 78) (vs := [.ref 176, .int 43]) (rest := []) (st1 := [.int 0]) (m_210f (d := _) (sl := 0) (c := 43) ((sg_k (k := 56) M.2.1 (by decide) (by decide)).trans (decide_eq_false (by rw [hk]; decide)))) rfl rfl rfl (fun _ _ => rfl) rfl (by exact cl_v my_210 rfl rfl rfl (Nat.le_of_ble_eq_true rfl) rfl (MH_obj rfl rfl) rfl (by decide) rfl rfl) (by rfl) (Nat.le_of_ble_eq_true rfl) (Nat.le_of_ble_eq_true rfl) rfl (by rfl) ?_
  refine w_f (a := 90) (b := 81) rfl rfl rfl ?_
  refine w_p (pc1 := 82) rfl rfl ?_
  refine w_p (pc1 := 84) (st1 := .int 45 :: _) rfl rfl ?_
  refine w_je (pc1 := 87) (vs := [.ref 176, .int 45]) (rest := []) (st1 := [.int 0]) (m_210f (d := _) (sl := 0) (c := 45) ((sg_k (k := 57) M.2.1 (by decide) (by decide)).trans (decide_eq_false (by rw [hk]; decide)))) rfl rfl rfl (fun _ _ => rfl) rfl (by exact cl_v my_210 rfl rfl rfl (Nat.le_of_ble_eq_true rfl) rfl (MH_obj rfl rfl) rfl (by decide) rfl rfl) (by rfl) (Nat.le_of_ble_eq_true rfl) (Nat.le_of_ble_eq_true rfl) rfl (by rfl) ?_
  refine w_t (a := 94) (b := 90) rfl rfl rfl ?_
  refine w_p (pc1 := 95) (st1 := .int 0 :: _) rfl rfl ?_
  refine w_p (pc1 := 97) (al1 := [(4, .int 0), (3, .int 1), (2, .int 1), (1, .int 1), (0, .ref 176)]) rfl rfl ?_
  refine w_p (pc1 := 98) rfl rfl ?_
  refine w_t (a := 106) (b := 101) rfl rfl rfl ?_
  refine w_p (pc1 := 107) rfl rfl ?_
  refine w_p (pc1 := 108) rfl rfl ?_
  refine w_f (a := 115) (b := 111) rfl rfl rfl ?_
  refine w_p (pc1 := 112) (st1 := .int 5 :: _) rfl rfl ?_
  refine w_p (pc1 := 117) rfl rfl ?_
  refine w_ji (pc1 := 120) (vs := [.ref 176, .int 5]) (rest := []) (dTo (h := 5) (d := _) (by decide) h0 h10 R s C hR hc M) rfl rfl rfl (fun _ _ => rfl) rfl (by exact cl_v my_232 rfl rfl rfl (Nat.le_of_ble_eq_true rfl) rfl (MH_obj rfl rfl) rfl (by decide) rfl rfl) (by rfl) (Nat.le_of_ble_eq_true rfl) (Nat.le_of_ble_eq_true rfl) rfl (fun v h1 d1 hq => ?_) (fun _ _ _ e => e.elim)
  rcases hq with ⟨hv, ⟨C1, M1, hh⟩, hn⟩
  · subst hv; subst hh; subst hn
    refine w_p (pc1 := 121) rfl rfl ?_
    refine w_ji (pc1 := 124) (vs := [.ref 176]) (rest := []) (dM (d := _) M1 h1) rfl rfl rfl (fun _ _ => rfl) rfl (by exact cl_v my_226 rfl rfl rfl (Nat.le_of_ble_eq_true rfl) rfl (MH_obj rfl rfl) rfl (by decide) rfl rfl) (by rfl) (Nat.le_of_ble_eq_true rfl) (Nat.le_of_ble_eq_true rfl) rfl (fun v h1 d1 hq => ?_) (fun _ _ _ e => e.elim)
    rcases hq with ⟨hv, ⟨C2, M2, hh⟩, hn⟩
    · subst hv; subst hh; subst hn
      refine w_p (pc1 := 125) rfl rfl ?_
      refine w_p (pc1 := 126) rfl rfl ?_
      refine w_f (a := 133) (b := 129) rfl rfl rfl ?_
      refine w_p (pc1 := 130) (st1 := .int 5 :: _) rfl rfl ?_
      refine w_p (pc1 := 135) rfl rfl ?_
      refine w_p (pc1 := 136) rfl rfl ?_
      refine w_m0 (pc1 := 139) (st1 := .long (47) :: _) rfl rfl (h_gJe (j := 7) rfl rfl rfl rfl rfl (by rw [M2.2.1.2.2.2.1, ← kd_get (by rw [hky]; decide), hky]; rfl)) rfl ?_
      refine w_ji (pc1 := 142) (vs := [.ref 176, .int 5, .long (47)]) (rest := []) (pM (d := _) M2 (by omega)) rfl rfl rfl (fun _ _ => rfl) rfl (by exact cl_v my_224 rfl rfl rfl (Nat.le_of_ble_eq_true rfl) rfl (MH_obj rfl rfl) rfl (by decide) rfl rfl) (by rfl) (Nat.le_of_ble_eq_true rfl) (Nat.le_of_ble_eq_true rfl) rfl (fun v h1 d1 hq => ?_) (fun _ _ _ e => e.elim)
      rcases hq with ⟨hv, ⟨C3, M3, hh⟩, hn⟩
      · subst hv; subst hh; subst hn
        refine w_p (pc1 := 143) rfl rfl ?_
        refine w_ji (pc1 := 146) (vs := [.ref 176]) (rest := []) (nA (d := _) M3 (show y.1 < 600 by rw [hy]; exact h6)) rfl rfl rfl (fun _ _ => rfl) rfl (by exact cl_v my_195 rfl rfl rfl (Nat.le_of_ble_eq_true rfl) rfl (MH_obj rfl rfl) rfl (by decide) rfl rfl) (by rfl) (Nat.le_of_ble_eq_true rfl) (Nat.le_of_ble_eq_true rfl) rfl (fun v h1 d1 hq => ?_) (fun _ _ _ e => e.elim)
        rcases hq with ⟨hv, ⟨C4, Q4, hh⟩, hn⟩
        · subst hv; subst hh; subst hn
          refine w_p (pc1 := 147) (st1 := .int 0 :: _) rfl rfl ?_
          refine w_p (pc1 := 148) (al1 := [(2, .int 0), (4, .int 0), (3, .int 1), (1, .int 1), (0, .ref 176)]) rfl rfl ?_
          refine w_p (pc1 := 219) rfl rfl ?_
          refine w_p (pc1 := 32) rfl rfl ?_
          refine w_p (pc1 := 33) rfl rfl ?_
          refine w_t (a := 222) (b := 36) rfl rfl rfl ?_
          refine w_p (pc1 := 9) rfl rfl ?_
          refine Wd_al sba_e (H _ ?_)
          have hy2 : (nxt y).1 = s.1 + 1 := by show y.1 + 1 = _; rw [hy]
          rw [hy2] at Q4
          exact Q4
set_option maxRecDepth 100000 in
theorem r48e_59 (hk : kd B n s.1 = 59) (h0 : stX 5 x0) (h10 : x0.1 ≤ 10) (hR : ∀ x, x ∈ R → okX 5 x) (hc : c34 R ≤ s.2.2.1) (M : MK B n C0 C p b wb (e + 1) s (V ++ [enX x0] ++ (R.map enX).reverse)) (h1 : spd (R.foldl (fun s x => dn x s) s) = .inl (c, i)) (H : ∀ C', FM B n C0 C' p b wb 2 c i → Wd L xs (d + 4) y_228 (9, [(1, .int 1), (0, .ref 176)], [], MH C' t, 0) P X) : Wd L xs (d + 4) y_228 (48, [(2, .int 1), (1, .int 1), (0, .ref 176)], [], MH C t, 0) P X := by
  refine w_p (pc1 := 49) rfl rfl ?_
  refine w_p (pc1 := 51) (st1 := .int 42 :: _) rfl rfl ?_
  refine w_je (pc1 := 54) (vs := [.ref 176, .int 42]) (rest := []) (st1 := [.int 0]) (m_210f (d := _) (sl := 0) (c := 42) ((sg_k (k := 58) M.2.1 (by decide) (by decide)).trans (decide_eq_false (by rw [hk]; decide)))) rfl rfl rfl (fun _ _ => rfl) rfl (by exact cl_v my_210 rfl rfl rfl (Nat.le_of_ble_eq_true rfl) rfl (MH_obj rfl rfl) rfl (by decide) rfl rfl) (by rfl) (Nat.le_of_ble_eq_true rfl) (Nat.le_of_ble_eq_true rfl) rfl (by rfl) ?_
  refine w_f (a := 66) (b := 57) rfl rfl rfl ?_
  refine w_p (pc1 := 58) rfl rfl ?_
  refine w_p (pc1 := 60) (st1 := .int 47 :: _) rfl rfl ?_
  refine w_je (pc1 := 63) (vs := [.ref 176, .int 47]) (rest := []) (st1 := [.int 1]) (m_210t (d := _) (sl := 0) (c := 47) ((sg_k (k := 59) M.2.1 (by decide) (by decide)).trans (decide_eq_true hk))) rfl rfl rfl (fun _ _ => rfl) rfl (by exact cl_v my_210 rfl rfl rfl (Nat.le_of_ble_eq_true rfl) rfl (MH_obj rfl rfl) rfl (by decide) rfl rfl) (by rfl) (Nat.le_of_ble_eq_true rfl) (Nat.le_of_ble_eq_true rfl) rfl (by rfl) ?_
  refine w_f (a := 70) (b := 66) rfl rfl rfl ?_
  refine w_p (pc1 := 67) (st1 := .int 1 :: _) rfl rfl ?_
  refine w_p (pc1 := 71) rfl rfl ?_
  refine w_p (pc1 := 72) (al1 := [(3, .int 1), (2, .int 1), (1, .int 1), (0, .ref 176)]) rfl rfl ?_
  refine w_p (pc1 := 73) rfl rfl ?_
  refine w_p (pc1 := 75) (st1 := .int 43 :: _) rfl rfl ?_
  refine w_je (pc1 := 78) (vs := [.ref 176, .int 43]) (rest := []) (st1 := [.int 0]) (m_210f (d := _) (sl := 0) (c := 43) ((sg_k (k := 56) M.2.1 (by decide) (by decide)).trans (decide_eq_false (by rw [hk]; decide)))) rfl rfl rfl (fun _ _ => rfl) rfl (by exact cl_v my_210 rfl rfl rfl (Nat.le_of_ble_eq_true rfl) rfl (MH_obj rfl rfl) rfl (by decide) rfl rfl) (by rfl) (Nat.le_of_ble_eq_true rfl) (Nat.le_of_ble_eq_true rfl) rfl (by rfl) ?_
  refine w_f (a := 90) (b := 81) rfl rfl rfl ?_
  refine w_p (pc1 := 82) rfl rfl ?_
  refine w_p (pc1 := 84) (st1 := .int 45 :: _) rfl rfl ?_
  refine w_je (pc1 := 87) (vs := [.ref 176, .int 45]) (rest := []) (st1 := [.int 0]) (m_210f (d := _) (sl := 0) (c := 45) ((sg_k (k := 57) M.2.1 (by decide) (by decide)).trans (decide_eq_false (by rw [hk]; decide)))) rfl rfl rfl (fun _ _ => rfl) rfl (by exact cl_v my_210 rfl rfl rfl (Nat.le_of_ble_eq_true rfl) rfl (MH_obj rfl rfl) rfl (by decide) rfl rfl) (by rfl) (Nat.le_of_ble_eq_true rfl) (Nat.le_of_ble_eq_true rfl) rfl (by rfl) ?_
  refine w_t (a := 94) (b := 90) rfl rfl rfl ?_
  refine w_p (pc1 := 95) (st1 := .int 0 :: _) rfl rfl ?_
  refine w_p (pc1 := 97) (al1 := [(4, .int 0), (3, .int 1), (2, .int 1), (1, .int 1), (0, .ref 176)]) rfl rfl ?_
  refine w_p (pc1 := 98) rfl rfl ?_
  refine w_t (a := 106) (b := 101) rfl rfl rfl ?_
  refine w_p (pc1 := 107) rfl rfl ?_
  refine w_p (pc1 := 108) rfl rfl ?_
  refine w_f (a := 115) (b := 111) rfl rfl rfl ?_
  refine w_p (pc1 := 112) (st1 := .int 5 :: _) rfl rfl ?_
  refine w_p (pc1 := 117) rfl rfl ?_
  refine w_ji (pc1 := 120) (vs := [.ref 176, .int 5]) (rest := []) (dTo (h := 5) (d := _) (by decide) h0 h10 R s C hR hc M) rfl rfl rfl (fun _ _ => rfl) rfl (by exact cl_v my_232 rfl rfl rfl (Nat.le_of_ble_eq_true rfl) rfl (MH_obj rfl rfl) rfl (by decide) rfl rfl) (by rfl) (Nat.le_of_ble_eq_true rfl) (Nat.le_of_ble_eq_true rfl) rfl (fun v h1 d1 hq => ?_) (fun _ _ _ e => e.elim)
  rcases hq with ⟨hv, ⟨C1, M1, hh⟩, hn⟩
  · subst hv; subst hh; subst hn
    refine w_p (pc1 := 121) rfl rfl ?_
    refine w_ji (pc1 := 124) (vs := [.ref 176]) (rest := []) (dE (d := _) M1 h1) rfl rfl rfl (fun _ _ => rfl) rfl (by exact cl_v my_226 rfl rfl rfl (Nat.le_of_ble_eq_true rfl) rfl (MH_obj rfl rfl) rfl (by decide) rfl rfl) (by rfl) (Nat.le_of_ble_eq_true rfl) (Nat.le_of_ble_eq_true rfl) rfl (fun v h1 d1 hq => ?_) (fun _ _ _ e => e.elim)
    rcases hq with ⟨hv, ⟨C2, F2, hh⟩, hn⟩
    · subst hv; subst hh; subst hn
      refine w_p (pc1 := 125) rfl rfl ?_
      refine w_p (pc1 := 126) rfl rfl ?_
      refine w_f (a := 133) (b := 129) rfl rfl rfl ?_
      refine w_p (pc1 := 130) (st1 := .int 5 :: _) rfl rfl ?_
      refine w_p (pc1 := 135) rfl rfl ?_
      refine w_p (pc1 := 136) rfl rfl ?_
      refine w_m0 (pc1 := 139) rfl rfl (h_gJ (j := 7) rfl rfl rfl rfl rfl) rfl ?_
      refine w_ji (pc1 := 142) (vs := [.ref 176, .int 5, _]) (rest := []) (pF (d := _) F2 (by omega)) rfl rfl rfl (fun _ _ => rfl) rfl (by exact cl_v my_224 rfl rfl rfl (Nat.le_of_ble_eq_true rfl) rfl (MH_obj rfl rfl) rfl (by decide) rfl rfl) (by rfl) (Nat.le_of_ble_eq_true rfl) (Nat.le_of_ble_eq_true rfl) rfl (fun v h1 d1 hq => ?_) (fun _ _ _ e => e.elim)
      rcases hq with ⟨hv, ⟨C3, F3, hh⟩, hn⟩
      · subst hv; subst hh; subst hn
        refine w_p (pc1 := 143) rfl rfl ?_
        refine w_ji (pc1 := 146) (vs := [.ref 176]) (rest := []) (nF (d := _) F3) rfl rfl rfl (fun _ _ => rfl) rfl (by exact cl_v my_195 rfl rfl rfl (Nat.le_of_ble_eq_true rfl) rfl (MH_obj rfl rfl) rfl (by decide) rfl rfl) (by rfl) (Nat.le_of_ble_eq_true rfl) (Nat.le_of_ble_eq_true rfl) rfl (fun v h1 d1 hq => ?_) (fun _ _ _ e => e.elim)
        rcases hq with ⟨hv, ⟨C4, F4, hh⟩, hn⟩
        · subst hv; subst hh; subst hn
          refine w_p (pc1 := 147) (st1 := .int 0 :: _) rfl rfl ?_
          refine w_p (pc1 := 148) (al1 := [(2, .int 0), (4, .int 0), (3, .int 1), (1, .int 1), (0, .ref 176)]) rfl rfl ?_
          refine w_p (pc1 := 219) rfl rfl ?_
          refine w_p (pc1 := 32) rfl rfl ?_
          refine w_p (pc1 := 33) rfl rfl ?_
          refine w_t (a := 222) (b := 36) rfl rfl rfl ?_
          refine w_p (pc1 := 9) rfl rfl ?_
          exact Wd_al sba_e (H _ F4)
set_option maxRecDepth 100000 in
theorem r48_56 (hk : kd B n s.1 = 56) (h0 : stX 6 x0) (h10 : x0.1 ≤ 10) (hR : ∀ x, x ∈ R → okX 6 x) (hc : c34 R ≤ s.2.2.1) (M : MK B n C0 C p b wb (e + 1) s (V ++ [enX x0] ++ (R.map enX).reverse)) (h6 : s.1 < 600) (he : e < 11) (h1 : spd (R.foldl (fun s x => dn x s) s) = .inr y) (H : ∀ C', ((kd B n (s.1 + 1) ≠ 1 ∧ MK B n C0 C' p b wb (e + 1) (nxt y) (V ++ [enX x0] ++ [enX (6, 43)])) ∨ (kd B n (s.1 + 1) = 1 ∧ FM B n C0 C' p b wb 0 1 (s.1 + 1))) → Wd L xs (d + 4) y_228 (9, [(1, .int 1), (0, .ref 176)], [], MH C' t, 0) P X) : Wd L xs (d + 4) y_228 (48, [(2, .int 1), (1, .int 1), (0, .ref 176)], [], MH C t, 0) P X := by
  have hf : (R.foldl (fun s x => dn x s) s).1 = s.1 := fold_1 R s
  have hy : y.1 = s.1 := (spd_s h1).1.trans hf
  have hky : kd B n y.1 = 56 := by rw [hy]; exact hk
  refine w_p (pc1 := 49) rfl rfl ?_
  refine w_p (pc1 := 51) (st1 := .int 42 :: _) rfl rfl ?_
  refine w_je (pc1 := 54) (vs := [.ref 176, .int 42]) (rest := []) (st1 := [.int 0]) (m_210f (d := _) (sl := 0) (c := 42) ((sg_k (k := 58) M.2.1 (by decide) (by decide)).trans (decide_eq_false (by rw [hk]; decide)))) rfl rfl rfl (fun _ _ => rfl) rfl (by exact cl_v my_210 rfl rfl rfl (Nat.le_of_ble_eq_true rfl) rfl (MH_obj rfl rfl) rfl (by decide) rfl rfl) (by rfl) (Nat.le_of_ble_eq_true rfl) (Nat.le_of_ble_eq_true rfl) rfl (by rfl) ?_
  refine w_f (a := 66) (b := 57) rfl rfl rfl ?_
  refine w_p (pc1 := 58) rfl rfl ?_
  refine w_p (pc1 := 60) (st1 := .int 47 :: _) rfl rfl ?_
  refine w_je (pc1 := 63) (vs := [.ref 176, .int 47]) (rest := []) (st1 := [.int 0]) (m_210f (d := _) (sl := 0) (c := 47) ((sg_k (k := 59) M.2.1 (by decide) (by decide)).trans (decide_eq_false (by rw [hk]; decide)))) rfl rfl rfl (fun _ _ => rfl) rfl (by exact cl_v my_210 rfl rfl rfl (Nat.le_of_ble_eq_true rfl) rfl (MH_obj rfl rfl) rfl (by decide) rfl rfl) (by rfl) (Nat.le_of_ble_eq_true rfl) (Nat.le_of_ble_eq_true rfl) rfl (by rfl) ?_
  refine w_t (a := 70) (b := 66) rfl rfl rfl ?_
  refine w_p (pc1 := 71) (st1 := .int 0 :: _) rfl rfl ?_
  refine w_p (pc1 := 72) (al1 := [(3, .int 0), (2, .int 1), (1, .int 1), (0, .ref 176)]) rfl rfl ?_
  refine w_p (pc1 := 73) rfl rfl ?_
  refine w_p (pc1 := 75) (st1 := .int 43 :: _) rfl rfl ?_
  refine w_je (pc1 := 78) (vs := [.ref 176, .int 43]) (rest := []) (st1 := [.int 1]) (m_210t (d := _) (sl := 0) (c := 43) ((sg_k (k := 56) M.2.1 (by decide) (by decide)).trans (decide_eq_true hk))) rfl rfl rfl (fun _ _ => rfl) rfl (by exact cl_v my_210 rfl rfl rfl (Nat.le_of_ble_eq_true rfl) rfl (MH_obj rfl rfl) rfl (by decide) rfl rfl) (by rfl) (Nat.le_of_ble_eq_true rfl) (Nat.le_of_ble_eq_true rfl) rfl (by rfl) ?_
  refine w_t (a := 90) (b := 81) rfl rfl rfl ?_
  refine w_p (pc1 := 91) (st1 := .int 1 :: _) rfl rfl ?_
  refine w_p (pc1 := 95) rfl rfl ?_
  refine w_p (pc1 := 97) (al1 := [(4, .int 1), (3, .int 0), (2, .int 1), (1, .int 1), (0, .ref 176)]) rfl rfl ?_
  refine w_p (pc1 := 98) rfl rfl ?_
  refine w_f (a := 106) (b := 101) rfl rfl rfl ?_
  refine w_p (pc1 := 103) rfl rfl ?_
  refine w_f (a := 151) (b := 106) rfl rfl rfl ?_
  refine w_p (pc1 := 107) rfl rfl ?_
  refine w_p (pc1 := 108) rfl rfl ?_
  refine w_t (a := 115) (b := 111) rfl rfl rfl ?_
  refine w_p (pc1 := 117) (st1 := .int 6 :: _) rfl rfl ?_
  refine w_ji (pc1 := 120) (vs := [.ref 176, .int 6]) (rest := []) (dTo (h := 6) (d := _) (by decide) h0 h10 R s C hR hc M) rfl rfl rfl (fun _ _ => rfl) rfl (by exact cl_v my_232 rfl rfl rfl (Nat.le_of_ble_eq_true rfl) rfl (MH_obj rfl rfl) rfl (by decide) rfl rfl) (by rfl) (Nat.le_of_ble_eq_true rfl) (Nat.le_of_ble_eq_true rfl) rfl (fun v h1 d1 hq => ?_) (fun _ _ _ e => e.elim)
  rcases hq with ⟨hv, ⟨C1, M1, hh⟩, hn⟩
  · subst hv; subst hh; subst hn
    refine w_p (pc1 := 121) rfl rfl ?_
    refine w_ji (pc1 := 124) (vs := [.ref 176]) (rest := []) (dM (d := _) M1 h1) rfl rfl rfl (fun _ _ => rfl) rfl (by exact cl_v my_226 rfl rfl rfl (Nat.le_of_ble_eq_true rfl) rfl (MH_obj rfl rfl) rfl (by decide) rfl rfl) (by rfl) (Nat.le_of_ble_eq_true rfl) (Nat.le_of_ble_eq_true rfl) rfl (fun v h1 d1 hq => ?_) (fun _ _ _ e => e.elim)
    rcases hq with ⟨hv, ⟨C2, M2, hh⟩, hn⟩
    · subst hv; subst hh; subst hn
      refine w_p (pc1 := 125) rfl rfl ?_
      refine w_p (pc1 := 126) rfl rfl ?_
      refine w_t (a := 133) (b := 129) rfl rfl rfl ?_
      refine w_p (pc1 := 135) (st1 := .int 6 :: _) rfl rfl ?_
      refine w_p (pc1 := 136) rfl rfl ?_
      refine w_m0 (pc1 := 139) (st1 := .long (43) :: _) rfl rfl (h_gJe (j := 7) rfl rfl rfl rfl rfl (by rw [M2.2.1.2.2.2.1, ← kd_get (by rw [hky]; decide), hky]; rfl)) rfl ?_
      refine w_ji (pc1 := 142) (vs := [.ref 176, .int 6, .long (43)]) (rest := []) (pM (d := _) M2 (by omega)) rfl rfl rfl (fun _ _ => rfl) rfl (by exact cl_v my_224 rfl rfl rfl (Nat.le_of_ble_eq_true rfl) rfl (MH_obj rfl rfl) rfl (by decide) rfl rfl) (by rfl) (Nat.le_of_ble_eq_true rfl) (Nat.le_of_ble_eq_true rfl) rfl (fun v h1 d1 hq => ?_) (fun _ _ _ e => e.elim)
      rcases hq with ⟨hv, ⟨C3, M3, hh⟩, hn⟩
      · subst hv; subst hh; subst hn
        refine w_p (pc1 := 143) rfl rfl ?_
        refine w_ji (pc1 := 146) (vs := [.ref 176]) (rest := []) (nA (d := _) M3 (show y.1 < 600 by rw [hy]; exact h6)) rfl rfl rfl (fun _ _ => rfl) rfl (by exact cl_v my_195 rfl rfl rfl (Nat.le_of_ble_eq_true rfl) rfl (MH_obj rfl rfl) rfl (by decide) rfl rfl) (by rfl) (Nat.le_of_ble_eq_true rfl) (Nat.le_of_ble_eq_true rfl) rfl (fun v h1 d1 hq => ?_) (fun _ _ _ e => e.elim)
        rcases hq with ⟨hv, ⟨C4, Q4, hh⟩, hn⟩
        · subst hv; subst hh; subst hn
          refine w_p (pc1 := 147) (st1 := .int 0 :: _) rfl rfl ?_
          refine w_p (pc1 := 148) (al1 := [(2, .int 0), (4, .int 1), (3, .int 0), (1, .int 1), (0, .ref 176)]) rfl rfl ?_
          refine w_p (pc1 := 219) rfl rfl ?_
          refine w_p (pc1 := 32) rfl rfl ?_
          refine w_p (pc1 := 33) rfl rfl ?_
          refine w_t (a := 222) (b := 36) rfl rfl rfl ?_
          refine w_p (pc1 := 9) rfl rfl ?_
          refine Wd_al sba_e (H _ ?_)
          have hy2 : (nxt y).1 = s.1 + 1 := by show y.1 + 1 = _; rw [hy]
          rw [hy2] at Q4
          exact Q4
set_option maxRecDepth 100000 in
theorem r48e_56 (hk : kd B n s.1 = 56) (h0 : stX 6 x0) (h10 : x0.1 ≤ 10) (hR : ∀ x, x ∈ R → okX 6 x) (hc : c34 R ≤ s.2.2.1) (M : MK B n C0 C p b wb (e + 1) s (V ++ [enX x0] ++ (R.map enX).reverse)) (h1 : spd (R.foldl (fun s x => dn x s) s) = .inl (c, i)) (H : ∀ C', FM B n C0 C' p b wb 2 c i → Wd L xs (d + 4) y_228 (9, [(1, .int 1), (0, .ref 176)], [], MH C' t, 0) P X) : Wd L xs (d + 4) y_228 (48, [(2, .int 1), (1, .int 1), (0, .ref 176)], [], MH C t, 0) P X := by
  refine w_p (pc1 := 49) rfl rfl ?_
  refine w_p (pc1 := 51) (st1 := .int 42 :: _) rfl rfl ?_
  refine w_je (pc1 := 54) (vs := [.ref 176, .int 42]) (rest := []) (st1 := [.int 0]) (m_210f (d := _) (sl := 0) (c := 42) ((sg_k (k := 58) M.2.1 (by decide) (by decide)).trans (decide_eq_false (by rw [hk]; decide)))) rfl rfl rfl (fun _ _ => rfl) rfl (by exact cl_v my_210 rfl rfl rfl (Nat.le_of_ble_eq_true rfl) rfl (MH_obj rfl rfl) rfl (by decide) rfl rfl) (by rfl) (Nat.le_of_ble_eq_true rfl) (Nat.le_of_ble_eq_true rfl) rfl (by rfl) ?_
  refine w_f (a := 66) (b := 57) rfl rfl rfl ?_
  refine w_p (pc1 := 58) rfl rfl ?_
  refine w_p (pc1 := 60) (st1 := .int 47 :: _) rfl rfl ?_
  refine w_je (pc1 := 63) (vs := [.ref 176, .int 47]) (rest := []) (st1 := [.int 0]) (m_210f (d := _) (sl := 0) (c := 47) ((sg_k (k := 59) M.2.1 (by decide) (by decide)).trans (decide_eq_false (by rw [hk]; decide)))) rfl rfl rfl (fun _ _ => rfl) rfl (by exact cl_v my_210 rfl rfl rfl (Nat.le_of_ble_eq_true rfl) rfl (MH_obj rfl rfl) rfl (by decide) rfl rfl) (by rfl) (Nat.le_of_ble_eq_true rfl) (Nat.le_of_ble_eq_true rfl) rfl (by rfl) ?_
  refine w_t (a := 70) (b := 66) rfl rfl rfl ?_
  refine w_p (pc1 := 71) (st1 := .int 0 :: _) rfl rfl ?_
  refine w_p (pc1 := 72) (al1 := [(3, .int 0), (2, .int 1), (1, .int 1), (0, .ref 176)]) rfl rfl ?_
  refine w_p (pc1 := 73) rfl rfl ?_
  refine w_p (pc1 := 75) (st1 := .int 43 :: _) rfl rfl ?_
  refine w_je (pc1 := 78) (vs := [.ref 176, .int 43]) (rest := []) (st1 := [.int 1]) (m_210t (d := _) (sl := 0) (c := 43) ((sg_k (k := 56) M.2.1 (by decide) (by decide)).trans (decide_eq_true hk))) rfl rfl rfl (fun _ _ => rfl) rfl (by exact cl_v my_210 rfl rfl rfl (Nat.le_of_ble_eq_true rfl) rfl (MH_obj rfl rfl) rfl (by decide) rfl rfl) (by rfl) (Nat.le_of_ble_eq_true rfl) (Nat.le_of_ble_eq_true rfl) rfl (by rfl) ?_
  refine w_t (a := 90) (b := 81) rfl rfl rfl ?_
  refine w_p (pc1 := 91) (st1 := .int 1 :: _) rfl rfl ?_
  refine w_p (pc1 := 95) rfl rfl ?_
  refine w_p (pc1 := 97) (al1 := [(4, .int 1), (3, .int 0), (2, .int 1), (1, .int 1), (0, .ref 176)]) rfl rfl ?_
  refine w_p (pc1 := 98) rfl rfl ?_
  refine w_f (a := 106) (b := 101) rfl rfl rfl ?_
  refine w_p (pc1 := 103) rfl rfl ?_
  refine w_f (a := 151) (b := 106) rfl rfl rfl ?_
  refine w_p (pc1 := 107) rfl rfl ?_
  refine w_p (pc1 := 108) rfl rfl ?_
  refine w_t (a := 115) (b := 111) rfl rfl rfl ?_
  refine w_p (pc1 := 117) (st1 := .int 6 :: _) rfl rfl ?_
  refine w_ji (pc1 := 120) (vs := [.ref 176, .int 6]) (rest := []) (dTo (h := 6) (d := _) (by decide) h0 h10 R s C hR hc M) rfl rfl rfl (fun _ _ => rfl) rfl (by exact cl_v my_232 rfl rfl rfl (Nat.le_of_ble_eq_true rfl) rfl (MH_obj rfl rfl) rfl (by decide) rfl rfl) (by rfl) (Nat.le_of_ble_eq_true rfl) (Nat.le_of_ble_eq_true rfl) rfl (fun v h1 d1 hq => ?_) (fun _ _ _ e => e.elim)
  rcases hq with ⟨hv, ⟨C1, M1, hh⟩, hn⟩
  · subst hv; subst hh; subst hn
    refine w_p (pc1 := 121) rfl rfl ?_
    refine w_ji (pc1 := 124) (vs := [.ref 176]) (rest := []) (dE (d := _) M1 h1) rfl rfl rfl (fun _ _ => rfl) rfl (by exact cl_v my_226 rfl rfl rfl (Nat.le_of_ble_eq_true rfl) rfl (MH_obj rfl rfl) rfl (by decide) rfl rfl) (by rfl) (Nat.le_of_ble_eq_true rfl) (Nat.le_of_ble_eq_true rfl) rfl (fun v h1 d1 hq => ?_) (fun _ _ _ e => e.elim)
    rcases hq with ⟨hv, ⟨C2, F2, hh⟩, hn⟩
    · subst hv; subst hh; subst hn
      refine w_p (pc1 := 125) rfl rfl ?_
      refine w_p (pc1 := 126) rfl rfl ?_
      refine w_t (a := 133) (b := 129) rfl rfl rfl ?_
      refine w_p (pc1 := 135) (st1 := .int 6 :: _) rfl rfl ?_
      refine w_p (pc1 := 136) rfl rfl ?_
      refine w_m0 (pc1 := 139) rfl rfl (h_gJ (j := 7) rfl rfl rfl rfl rfl) rfl ?_
      refine w_ji (pc1 := 142) (vs := [.ref 176, .int 6, _]) (rest := []) (pF (d := _) F2 (by omega)) rfl rfl rfl (fun _ _ => rfl) rfl (by exact cl_v my_224 rfl rfl rfl (Nat.le_of_ble_eq_true rfl) rfl (MH_obj rfl rfl) rfl (by decide) rfl rfl) (by rfl) (Nat.le_of_ble_eq_true rfl) (Nat.le_of_ble_eq_true rfl) rfl (fun v h1 d1 hq => ?_) (fun _ _ _ e => e.elim)
      rcases hq with ⟨hv, ⟨C3, F3, hh⟩, hn⟩
      · subst hv; subst hh; subst hn
        refine w_p (pc1 := 143) rfl rfl ?_
        refine w_ji (pc1 := 146) (vs := [.ref 176]) (rest := []) (nF (d := _) F3) rfl rfl rfl (fun _ _ => rfl) rfl (by exact cl_v my_195 rfl rfl rfl (Nat.le_of_ble_eq_true rfl) rfl (MH_obj rfl rfl) rfl (by decide) rfl rfl) (by rfl) (Nat.le_of_ble_eq_true rfl) (Nat.le_of_ble_eq_true rfl) rfl (fun v h1 d1 hq => ?_) (fun _ _ _ e => e.elim)
        rcases hq with ⟨hv, ⟨C4, F4, hh⟩, hn⟩
        · subst hv; subst hh; subst hn
          refine w_p (pc1 := 147) (st1 := .int 0 :: _) rfl rfl ?_
          refine w_p (pc1 := 148) (al1 := [(2, .int 0), (4, .int 1), (3, .int 0), (1, .int 1), (0, .ref 176)]) rfl rfl ?_
          refine w_p (pc1 := 219) rfl rfl ?_
          refine w_p (pc1 := 32) rfl rfl ?_
          refine w_p (pc1 := 33) rfl rfl ?_
          refine w_t (a := 222) (b := 36) rfl rfl rfl ?_
          refine w_p (pc1 := 9) rfl rfl ?_
          exact Wd_al sba_e (H _ F4)
set_option maxRecDepth 100000 in
theorem r48_57 (hk : kd B n s.1 = 57) (h0 : stX 6 x0) (h10 : x0.1 ≤ 10) (hR : ∀ x, x ∈ R → okX 6 x) (hc : c34 R ≤ s.2.2.1) (M : MK B n C0 C p b wb (e + 1) s (V ++ [enX x0] ++ (R.map enX).reverse)) (h6 : s.1 < 600) (he : e < 11) (h1 : spd (R.foldl (fun s x => dn x s) s) = .inr y) (H : ∀ C', ((kd B n (s.1 + 1) ≠ 1 ∧ MK B n C0 C' p b wb (e + 1) (nxt y) (V ++ [enX x0] ++ [enX (6, 45)])) ∨ (kd B n (s.1 + 1) = 1 ∧ FM B n C0 C' p b wb 0 1 (s.1 + 1))) → Wd L xs (d + 4) y_228 (9, [(1, .int 1), (0, .ref 176)], [], MH C' t, 0) P X) : Wd L xs (d + 4) y_228 (48, [(2, .int 1), (1, .int 1), (0, .ref 176)], [], MH C t, 0) P X := by
  have hf : (R.foldl (fun s x => dn x s) s).1 = s.1 := fold_1 R s
  have hy : y.1 = s.1 := (spd_s h1).1.trans hf
  have hky : kd B n y.1 = 57 := by rw [hy]; exact hk
  refine w_p (pc1 := 49) rfl rfl ?_
  refine w_p (pc1 := 51) (st1 := .int 42 :: _) rfl rfl ?_
  refine w_je (pc1 := 54) (vs := [.ref 176, .int 42]) (rest := []) (st1 := [.int 0]) (m_210f (d := _) (sl := 0) (c := 42) ((sg_k (k := 58) M.2.1 (by decide) (by decide)).trans (decide_eq_false (by rw [hk]; decide)))) rfl rfl rfl (fun _ _ => rfl) rfl (by exact cl_v my_210 rfl rfl rfl (Nat.le_of_ble_eq_true rfl) rfl (MH_obj rfl rfl) rfl (by decide) rfl rfl) (by rfl) (Nat.le_of_ble_eq_true rfl) (Nat.le_of_ble_eq_true rfl) rfl (by rfl) ?_
  refine w_f (a := 66) (b := 57) rfl rfl rfl ?_
  refine w_p (pc1 := 58) rfl rfl ?_
  refine w_p (pc1 := 60) (st1 := .int 47 :: _) rfl rfl ?_
  refine w_je (pc1 := 63) (vs := [.ref 176, .int 47]) (rest := []) (st1 := [.int 0]) (m_210f (d := _) (sl := 0) (c := 47) ((sg_k (k := 59) M.2.1 (by decide) (by decide)).trans (decide_eq_false (by rw [hk]; decide)))) rfl rfl rfl (fun _ _ => rfl) rfl (by exact cl_v my_210 rfl rfl rfl (Nat.le_of_ble_eq_true rfl) rfl (MH_obj rfl rfl) rfl (by decide) rfl rfl) (by rfl) (Nat.le_of_ble_eq_true rfl) (Nat.le_of_ble_eq_true rfl) rfl (by rfl) ?_
  refine w_t (a := 70) (b := 66) rfl rfl rfl ?_
  refine w_p (pc1 := 71) (st1 := .int 0 :: _) rfl rfl ?_
  refine w_p (pc1 := 72) (al1 := [(3, .int 0), (2, .int 1), (1, .int 1), (0, .ref 176)]) rfl rfl ?_
  refine w_p (pc1 := 73) rfl rfl ?_
  refine w_p (pc1 := 75) (st1 := .int 43 :: _) rfl rfl ?_
  refine w_je (pc1 := 78) (vs := [.ref 176, .int 43]) (rest := []) (st1 := [.int 0]) (m_210f (d := _) (sl := 0) (c := 43) ((sg_k (k := 56) M.2.1 (by decide) (by decide)).trans (decide_eq_false (by rw [hk]; decide)))) rfl rfl rfl (fun _ _ => rfl) rfl (by exact cl_v my_210 rfl rfl rfl (Nat.le_of_ble_eq_true rfl) rfl (MH_obj rfl rfl) rfl (by decide) rfl rfl) (by rfl) (Nat.le_of_ble_eq_true rfl) (Nat.le_of_ble_eq_true rfl) rfl (by rfl) ?_
  refine w_f (a := 90) (b := 81) rfl rfl rfl ?_
  refine w_p (pc1 := 82) rfl rfl ?_
  refine w_p (pc1 := 84) (st1 := .int 45 :: _) rfl rfl ?_
  refine w_je (pc1 := 87) (vs := [.ref 176, .int 45]) (rest := []) (st1 := [.int 1]) (m_210t (d := _) (sl := 0) (c := 45) ((sg_k (k := 57) M.2.1 (by decide) (by decide)).trans (decide_eq_true hk))) rfl rfl rfl (fun _ _ => rfl) rfl (by exact cl_v my_210 rfl rfl rfl (Nat.le_of_ble_eq_true rfl) rfl (MH_obj rfl rfl) rfl (by decide) rfl rfl) (by rfl) (Nat.le_of_ble_eq_true rfl) (Nat.le_of_ble_eq_true rfl) rfl (by rfl) ?_
  refine w_f (a := 94) (b := 90) rfl rfl rfl ?_
  refine w_p (pc1 := 91) (st1 := .int 1 :: _) rfl rfl ?_
  refine w_p (pc1 := 95) rfl rfl ?_
  refine w_p (pc1 := 97) (al1 := [(4, .int 1), (3, .int 0), (2, .int 1), (1, .int 1), (0, .ref 176)]) rfl rfl ?_
  refine w_p (pc1 := 98) rfl rfl ?_
  refine w_f (a := 106) (b := 101) rfl rfl rfl ?_
  refine w_p (pc1 := 103) rfl rfl ?_
  refine w_f (a := 151) (b := 106) rfl rfl rfl ?_
  refine w_p (pc1 := 107) rfl rfl ?_
  refine w_p (pc1 := 108) rfl rfl ?_
  refine w_t (a := 115) (b := 111) rfl rfl rfl ?_
  refine w_p (pc1 := 117) (st1 := .int 6 :: _) rfl rfl ?_
  refine w_ji (pc1 := 120) (vs := [.ref 176, .int 6]) (rest := []) (dTo (h := 6) (d := _) (by decide) h0 h10 R s C hR hc M) rfl rfl rfl (fun _ _ => rfl) rfl (by exact cl_v my_232 rfl rfl rfl (Nat.le_of_ble_eq_true rfl) rfl (MH_obj rfl rfl) rfl (by decide) rfl rfl) (by rfl) (Nat.le_of_ble_eq_true rfl) (Nat.le_of_ble_eq_true rfl) rfl (fun v h1 d1 hq => ?_) (fun _ _ _ e => e.elim)
  rcases hq with ⟨hv, ⟨C1, M1, hh⟩, hn⟩
  · subst hv; subst hh; subst hn
    refine w_p (pc1 := 121) rfl rfl ?_
    refine w_ji (pc1 := 124) (vs := [.ref 176]) (rest := []) (dM (d := _) M1 h1) rfl rfl rfl (fun _ _ => rfl) rfl (by exact cl_v my_226 rfl rfl rfl (Nat.le_of_ble_eq_true rfl) rfl (MH_obj rfl rfl) rfl (by decide) rfl rfl) (by rfl) (Nat.le_of_ble_eq_true rfl) (Nat.le_of_ble_eq_true rfl) rfl (fun v h1 d1 hq => ?_) (fun _ _ _ e => e.elim)
    rcases hq with ⟨hv, ⟨C2, M2, hh⟩, hn⟩
    · subst hv; subst hh; subst hn
      refine w_p (pc1 := 125) rfl rfl ?_
      refine w_p (pc1 := 126) rfl rfl ?_
      refine w_t (a := 133) (b := 129) rfl rfl rfl ?_
      refine w_p (pc1 := 135) (st1 := .int 6 :: _) rfl rfl ?_
      refine w_p (pc1 := 136) rfl rfl ?_
      refine w_m0 (pc1 := 139) (st1 := .long (45) :: _) rfl rfl (h_gJe (j := 7) rfl rfl rfl rfl rfl (by rw [M2.2.1.2.2.2.1, ← kd_get (by rw [hky]; decide), hky]; rfl)) rfl ?_
      refine w_ji (pc1 := 142) (vs := [.ref 176, .int 6, .long (45)]) (rest := []) (pM (d := _) M2 (by omega)) rfl rfl rfl (fun _ _ => rfl) rfl (by exact cl_v my_224 rfl rfl rfl (Nat.le_of_ble_eq_true rfl) rfl (MH_obj rfl rfl) rfl (by decide) rfl rfl) (by rfl) (Nat.le_of_ble_eq_true rfl) (Nat.le_of_ble_eq_true rfl) rfl (fun v h1 d1 hq => ?_) (fun _ _ _ e => e.elim)
      rcases hq with ⟨hv, ⟨C3, M3, hh⟩, hn⟩
      · subst hv; subst hh; subst hn
        refine w_p (pc1 := 143) rfl rfl ?_
        refine w_ji (pc1 := 146) (vs := [.ref 176]) (rest := []) (nA (d := _) M3 (show y.1 < 600 by rw [hy]; exact h6)) rfl rfl rfl (fun _ _ => rfl) rfl (by exact cl_v my_195 rfl rfl rfl (Nat.le_of_ble_eq_true rfl) rfl (MH_obj rfl rfl) rfl (by decide) rfl rfl) (by rfl) (Nat.le_of_ble_eq_true rfl) (Nat.le_of_ble_eq_true rfl) rfl (fun v h1 d1 hq => ?_) (fun _ _ _ e => e.elim)
        rcases hq with ⟨hv, ⟨C4, Q4, hh⟩, hn⟩
        · subst hv; subst hh; subst hn
          refine w_p (pc1 := 147) (st1 := .int 0 :: _) rfl rfl ?_
          refine w_p (pc1 := 148) (al1 := [(2, .int 0), (4, .int 1), (3, .int 0), (1, .int 1), (0, .ref 176)]) rfl rfl ?_
          refine w_p (pc1 := 219) rfl rfl ?_
          refine w_p (pc1 := 32) rfl rfl ?_
          refine w_p (pc1 := 33) rfl rfl ?_
          refine w_t (a := 222) (b := 36) rfl rfl rfl ?_
          refine w_p (pc1 := 9) rfl rfl ?_
          refine Wd_al sba_e (H _ ?_)
          have hy2 : (nxt y).1 = s.1 + 1 := by show y.1 + 1 = _; rw [hy]
          rw [hy2] at Q4
          exact Q4
set_option maxRecDepth 100000 in
theorem r48e_57 (hk : kd B n s.1 = 57) (h0 : stX 6 x0) (h10 : x0.1 ≤ 10) (hR : ∀ x, x ∈ R → okX 6 x) (hc : c34 R ≤ s.2.2.1) (M : MK B n C0 C p b wb (e + 1) s (V ++ [enX x0] ++ (R.map enX).reverse)) (h1 : spd (R.foldl (fun s x => dn x s) s) = .inl (c, i)) (H : ∀ C', FM B n C0 C' p b wb 2 c i → Wd L xs (d + 4) y_228 (9, [(1, .int 1), (0, .ref 176)], [], MH C' t, 0) P X) : Wd L xs (d + 4) y_228 (48, [(2, .int 1), (1, .int 1), (0, .ref 176)], [], MH C t, 0) P X := by
  refine w_p (pc1 := 49) rfl rfl ?_
  refine w_p (pc1 := 51) (st1 := .int 42 :: _) rfl rfl ?_
  refine w_je (pc1 := 54) (vs := [.ref 176, .int 42]) (rest := []) (st1 := [.int 0]) (m_210f (d := _) (sl := 0) (c := 42) ((sg_k (k := 58) M.2.1 (by decide) (by decide)).trans (decide_eq_false (by rw [hk]; decide)))) rfl rfl rfl (fun _ _ => rfl) rfl (by exact cl_v my_210 rfl rfl rfl (Nat.le_of_ble_eq_true rfl) rfl (MH_obj rfl rfl) rfl (by decide) rfl rfl) (by rfl) (Nat.le_of_ble_eq_true rfl) (Nat.le_of_ble_eq_true rfl) rfl (by rfl) ?_
  refine w_f (a := 66) (b := 57) rfl rfl rfl ?_
  refine w_p (pc1 := 58) rfl rfl ?_
  refine w_p (pc1 := 60) (st1 := .int 47 :: _) rfl rfl ?_
  refine w_je (pc1 := 63) (vs := [.ref 176, .int 47]) (rest := []) (st1 := [.int 0]) (m_210f (d := _) (sl := 0) (c := 47) ((sg_k (k := 59) M.2.1 (by decide) (by decide)).trans (decide_eq_false (by rw [hk]; decide)))) rfl rfl rfl (fun _ _ => rfl) rfl (by exact cl_v my_210 rfl rfl rfl (Nat.le_of_ble_eq_true rfl) rfl (MH_obj rfl rfl) rfl (by decide) rfl rfl) (by rfl) (Nat.le_of_ble_eq_true rfl) (Nat.le_of_ble_eq_true rfl) rfl (by rfl) ?_
  refine w_t (a := 70) (b := 66) rfl rfl rfl ?_
  refine w_p (pc1 := 71) (st1 := .int 0 :: _) rfl rfl ?_
  refine w_p (pc1 := 72) (al1 := [(3, .int 0), (2, .int 1), (1, .int 1), (0, .ref 176)]) rfl rfl ?_
  refine w_p (pc1 := 73) rfl rfl ?_
  refine w_p (pc1 := 75) (st1 := .int 43 :: _) rfl rfl ?_
  refine w_je (pc1 := 78) (vs := [.ref 176, .int 43]) (rest := []) (st1 := [.int 0]) (m_210f (d := _) (sl := 0) (c := 43) ((sg_k (k := 56) M.2.1 (by decide) (by decide)).trans (decide_eq_false (by rw [hk]; decide)))) rfl rfl rfl (fun _ _ => rfl) rfl (by exact cl_v my_210 rfl rfl rfl (Nat.le_of_ble_eq_true rfl) rfl (MH_obj rfl rfl) rfl (by decide) rfl rfl) (by rfl) (Nat.le_of_ble_eq_true rfl) (Nat.le_of_ble_eq_true rfl) rfl (by rfl) ?_
  refine w_f (a := 90) (b := 81) rfl rfl rfl ?_
  refine w_p (pc1 := 82) rfl rfl ?_
  refine w_p (pc1 := 84) (st1 := .int 45 :: _) rfl rfl ?_
  refine w_je (pc1 := 87) (vs := [.ref 176, .int 45]) (rest := []) (st1 := [.int 1]) (m_210t (d := _) (sl := 0) (c := 45) ((sg_k (k := 57) M.2.1 (by decide) (by decide)).trans (decide_eq_true hk))) rfl rfl rfl (fun _ _ => rfl) rfl (by exact cl_v my_210 rfl rfl rfl (Nat.le_of_ble_eq_true rfl) rfl (MH_obj rfl rfl) rfl (by decide) rfl rfl) (by rfl) (Nat.le_of_ble_eq_true rfl) (Nat.le_of_ble_eq_true rfl) rfl (by rfl) ?_
  refine w_f (a := 94) (b := 90) rfl rfl rfl ?_
  refine w_p (pc1 := 91) (st1 := .int 1 :: _) rfl rfl ?_
  refine w_p (pc1 := 95) rfl rfl ?_
  refine w_p (pc1 := 97) (al1 := [(4, .int 1), (3, .int 0), (2, .int 1), (1, .int 1), (0, .ref 176)]) rfl rfl ?_
  refine w_p (pc1 := 98) rfl rfl ?_
  refine w_f (a := 106) (b := 101) rfl rfl rfl ?_
  refine w_p (pc1 := 103) rfl rfl ?_
  refine w_f (a := 151) (b := 106) rfl rfl rfl ?_
  refine w_p (pc1 := 107) rfl rfl ?_
  refine w_p (pc1 := 108) rfl rfl ?_
  refine w_t (a := 115) (b := 111) rfl rfl rfl ?_
  refine w_p (pc1 := 117) (st1 := .int 6 :: _) rfl rfl ?_
  refine w_ji (pc1 := 120) (vs := [.ref 176, .int 6]) (rest := []) (dTo (h := 6) (d := _) (by decide) h0 h10 R s C hR hc M) rfl rfl rfl (fun _ _ => rfl) rfl (by exact cl_v my_232 rfl rfl rfl (Nat.le_of_ble_eq_true rfl) rfl (MH_obj rfl rfl) rfl (by decide) rfl rfl) (by rfl) (Nat.le_of_ble_eq_true rfl) (Nat.le_of_ble_eq_true rfl) rfl (fun v h1 d1 hq => ?_) (fun _ _ _ e => e.elim)
  rcases hq with ⟨hv, ⟨C1, M1, hh⟩, hn⟩
  · subst hv; subst hh; subst hn
    refine w_p (pc1 := 121) rfl rfl ?_
    refine w_ji (pc1 := 124) (vs := [.ref 176]) (rest := []) (dE (d := _) M1 h1) rfl rfl rfl (fun _ _ => rfl) rfl (by exact cl_v my_226 rfl rfl rfl (Nat.le_of_ble_eq_true rfl) rfl (MH_obj rfl rfl) rfl (by decide) rfl rfl) (by rfl) (Nat.le_of_ble_eq_true rfl) (Nat.le_of_ble_eq_true rfl) rfl (fun v h1 d1 hq => ?_) (fun _ _ _ e => e.elim)
    rcases hq with ⟨hv, ⟨C2, F2, hh⟩, hn⟩
    · subst hv; subst hh; subst hn
      refine w_p (pc1 := 125) rfl rfl ?_
      refine w_p (pc1 := 126) rfl rfl ?_
      refine w_t (a := 133) (b := 129) rfl rfl rfl ?_
      refine w_p (pc1 := 135) (st1 := .int 6 :: _) rfl rfl ?_
      refine w_p (pc1 := 136) rfl rfl ?_
      refine w_m0 (pc1 := 139) rfl rfl (h_gJ (j := 7) rfl rfl rfl rfl rfl) rfl ?_
      refine w_ji (pc1 := 142) (vs := [.ref 176, .int 6, _]) (rest := []) (pF (d := _) F2 (by omega)) rfl rfl rfl (fun _ _ => rfl) rfl (by exact cl_v my_224 rfl rfl rfl (Nat.le_of_ble_eq_true rfl) rfl (MH_obj rfl rfl) rfl (by decide) rfl rfl) (by rfl) (Nat.le_of_ble_eq_true rfl) (Nat.le_of_ble_eq_true rfl) rfl (fun v h1 d1 hq => ?_) (fun _ _ _ e => e.elim)
      rcases hq with ⟨hv, ⟨C3, F3, hh⟩, hn⟩
      · subst hv; subst hh; subst hn
        refine w_p (pc1 := 143) rfl rfl ?_
        refine w_ji (pc1 := 146) (vs := [.ref 176]) (rest := []) (nF (d := _) F3) rfl rfl rfl (fun _ _ => rfl) rfl (by exact cl_v my_195 rfl rfl rfl (Nat.le_of_ble_eq_true rfl) rfl (MH_obj rfl rfl) rfl (by decide) rfl rfl) (by rfl) (Nat.le_of_ble_eq_true rfl) (Nat.le_of_ble_eq_true rfl) rfl (fun v h1 d1 hq => ?_) (fun _ _ _ e => e.elim)
        rcases hq with ⟨hv, ⟨C4, F4, hh⟩, hn⟩
        · subst hv; subst hh; subst hn
          refine w_p (pc1 := 147) (st1 := .int 0 :: _) rfl rfl ?_
          refine w_p (pc1 := 148) (al1 := [(2, .int 0), (4, .int 1), (3, .int 0), (1, .int 1), (0, .ref 176)]) rfl rfl ?_
          refine w_p (pc1 := 219) rfl rfl ?_
          refine w_p (pc1 := 32) rfl rfl ?_
          refine w_p (pc1 := 33) rfl rfl ?_
          refine w_t (a := 222) (b := 36) rfl rfl rfl ?_
          refine w_p (pc1 := 9) rfl rfl ?_
          exact Wd_al sba_e (H _ F4)
set_option maxRecDepth 100000 in
theorem r48n (hk58 : kd B n s.1 ≠ 58) (hk59 : kd B n s.1 ≠ 59) (hk56 : kd B n s.1 ≠ 56) (hk57 : kd B n s.1 ≠ 57) (h0 : stX 6 x0) (h10 : x0.1 ≤ 10) (hR : ∀ x, x ∈ R → okX 6 x) (hc : c34 R ≤ s.2.2.1) (M : MK B n C0 C p b wb (e + 1) s (V ++ [enX x0] ++ (R.map enX).reverse)) (H : ∀ C', MK B n C0 C' p b wb (e + 1) (R.foldl (fun s x => dn x s) s) (V ++ [enX x0]) → Wd L xs (d + 3) y_228 (157, [(2, .int 1), (1, .int 1), (0, .ref 176)], [], MH C' t, 0) P X) : Wd L xs (d + 3) y_228 (48, [(2, .int 1), (1, .int 1), (0, .ref 176)], [], MH C t, 0) P X := by
  refine w_p (pc1 := 49) rfl rfl ?_
  refine w_p (pc1 := 51) (st1 := .int 42 :: _) rfl rfl ?_
  refine w_je (pc1 := 54) (vs := [.ref 176, .int 42]) (rest := []) (st1 := [.int 0]) (m_210f (d := _) (sl := 0) (c := 42) ((sg_k (k := 58) M.2.1 (by decide) (by decide)).trans (decide_eq_false hk58))) rfl rfl rfl (fun _ _ => rfl) rfl (by exact cl_v my_210 rfl rfl rfl (Nat.le_of_ble_eq_true rfl) rfl (MH_obj rfl rfl) rfl (by decide) rfl rfl) (by rfl) (Nat.le_of_ble_eq_true rfl) (Nat.le_of_ble_eq_true rfl) rfl (by rfl) ?_
  refine w_f (a := 66) (b := 57) rfl rfl rfl ?_
  refine w_p (pc1 := 58) rfl rfl ?_
  refine w_p (pc1 := 60) (st1 := .int 47 :: _) rfl rfl ?_
  refine w_je (pc1 := 63) (vs := [.ref 176, .int 47]) (rest := []) (st1 := [.int 0]) (m_210f (d := _) (sl := 0) (c := 47) ((sg_k (k := 59) M.2.1 (by decide) (by decide)).trans (decide_eq_false hk59))) rfl rfl rfl (fun _ _ => rfl) rfl (by exact cl_v my_210 rfl rfl rfl (Nat.le_of_ble_eq_true rfl) rfl (MH_obj rfl rfl) rfl (by decide) rfl rfl) (by rfl) (Nat.le_of_ble_eq_true rfl) (Nat.le_of_ble_eq_true rfl) rfl (by rfl) ?_
  refine w_t (a := 70) (b := 66) rfl rfl rfl ?_
  refine w_p (pc1 := 71) (st1 := .int 0 :: _) rfl rfl ?_
  refine w_p (pc1 := 72) (al1 := [(3, .int 0), (2, .int 1), (1, .int 1), (0, .ref 176)]) rfl rfl ?_
  refine w_p (pc1 := 73) rfl rfl ?_
  refine w_p (pc1 := 75) (st1 := .int 43 :: _) rfl rfl ?_
  refine w_je (pc1 := 78) (vs := [.ref 176, .int 43]) (rest := []) (st1 := [.int 0]) (m_210f (d := _) (sl := 0) (c := 43) ((sg_k (k := 56) M.2.1 (by decide) (by decide)).trans (decide_eq_false hk56))) rfl rfl rfl (fun _ _ => rfl) rfl (by exact cl_v my_210 rfl rfl rfl (Nat.le_of_ble_eq_true rfl) rfl (MH_obj rfl rfl) rfl (by decide) rfl rfl) (by rfl) (Nat.le_of_ble_eq_true rfl) (Nat.le_of_ble_eq_true rfl) rfl (by rfl) ?_
  refine w_f (a := 90) (b := 81) rfl rfl rfl ?_
  refine w_p (pc1 := 82) rfl rfl ?_
  refine w_p (pc1 := 84) (st1 := .int 45 :: _) rfl rfl ?_
  refine w_je (pc1 := 87) (vs := [.ref 176, .int 45]) (rest := []) (st1 := [.int 0]) (m_210f (d := _) (sl := 0) (c := 45) ((sg_k (k := 57) M.2.1 (by decide) (by decide)).trans (decide_eq_false hk57))) rfl rfl rfl (fun _ _ => rfl) rfl (by exact cl_v my_210 rfl rfl rfl (Nat.le_of_ble_eq_true rfl) rfl (MH_obj rfl rfl) rfl (by decide) rfl rfl) (by rfl) (Nat.le_of_ble_eq_true rfl) (Nat.le_of_ble_eq_true rfl) rfl (by rfl) ?_
  refine w_t (a := 94) (b := 90) rfl rfl rfl ?_
  refine w_p (pc1 := 95) (st1 := .int 0 :: _) rfl rfl ?_
  refine w_p (pc1 := 97) (al1 := [(4, .int 0), (3, .int 0), (2, .int 1), (1, .int 1), (0, .ref 176)]) rfl rfl ?_
  refine w_p (pc1 := 98) rfl rfl ?_
  refine w_f (a := 106) (b := 101) rfl rfl rfl ?_
  refine w_p (pc1 := 103) rfl rfl ?_
  refine w_t (a := 151) (b := 106) rfl rfl rfl ?_
  refine w_p (pc1 := 152) rfl rfl ?_
  refine w_p (pc1 := 154) (st1 := .int 6 :: _) rfl rfl ?_
  refine w_ji (pc1 := 157) (vs := [.ref 176, .int 6]) (rest := []) (dTo (h := 6) (d := _) (by decide) h0 h10 R s C hR hc M) rfl rfl rfl (fun _ _ => rfl) rfl (by exact cl_v my_232 rfl rfl rfl (Nat.le_of_ble_eq_true rfl) rfl (MH_obj rfl rfl) rfl (by decide) rfl rfl) (by rfl) (Nat.le_of_ble_eq_true rfl) (Nat.le_of_ble_eq_true rfl) rfl (fun v h1 d1 hq => ?_) (fun _ _ _ e => e.elim)
  rcases hq with ⟨hv, ⟨C1, M1, hh⟩, hn⟩
  · subst hv; subst hh; subst hn
    exact Wd_al sb_48 (H _ M1)
set_option maxRecDepth 100000 in
theorem r157c (hk : kd B n s.1 = 45) (h1 : 1 ≤ s.2.2.1) (h6 : s.1 < 600) (M : MK B n C0 C p b wb (e + 2) s (W ++ [enX (1, 0)])) (H : ∀ C', ((kd B n (s.1 + 1) ≠ 1 ∧ MK B n C0 C' p b wb e (nxt (gou s)) W) ∨ (kd B n (s.1 + 1) = 1 ∧ FM B n C0 C' p b wb 0 1 (s.1 + 1))) → Wd L xs (d + 4) y_228 (32, [(2, .int 1), (1, .int 1), (0, .ref 176)], [], MH C' t, 0) P X) : Wd L xs (d + 4) y_228 (157, [(2, .int 1), (1, .int 1), (0, .ref 176)], [], MH C t, 0) P X := by
  have ht := MK_top M
  have M1 := MK_c (MK_q M)
  refine w_p (pc1 := 158) rfl rfl ?_
  refine w_p (pc1 := 160) (st1 := .int 41 :: _) rfl rfl ?_
  refine w_je (pc1 := 163) (vs := [.ref 176, .int 41]) (rest := []) (st1 := [.int 1]) (m_210t (d := _) (sl := 0) (c := 41) ((sg_k (k := 45) M.2.1 (by decide) (by decide)).trans (decide_eq_true hk))) rfl rfl rfl (fun _ _ => rfl) rfl (by exact cl_v my_210 rfl rfl rfl (Nat.le_of_ble_eq_true rfl) rfl (MH_obj rfl rfl) rfl (by decide) rfl rfl) (by rfl) (Nat.le_of_ble_eq_true rfl) (Nat.le_of_ble_eq_true rfl) rfl (by rfl) ?_
  refine w_f (a := 201) (b := 166) rfl rfl rfl ?_
  refine w_p (pc1 := 167) rfl rfl ?_
  refine w_je (pc1 := 170) (vs := [.ref 176]) (rest := []) (st1 := [.int 1]) (tM (d := _) (x := (1, 0)) M) rfl rfl rfl (fun _ _ => rfl) rfl (by exact cl_v my_233 rfl rfl rfl (Nat.le_of_ble_eq_true rfl) rfl (MH_obj rfl rfl) rfl (by decide) rfl rfl) (by rfl) (Nat.le_of_ble_eq_true rfl) (Nat.le_of_ble_eq_true rfl) rfl (by rfl) ?_
  refine w_p (pc1 := 171) (st1 := .int 1 :: _) rfl rfl ?_
  refine w_f (a := 201) (b := 174) rfl rfl rfl ?_
  refine w_p (pc1 := 175) rfl rfl ?_
  refine w_p (pc1 := 176) rfl rfl ?_
  refine w_m0 (pc1 := 179) (st1 := .int (nI (wb + W.length + 1)) :: _) rfl rfl (h_gIe (j := 52) rfl rfl rfl rfl rfl (ht.1)) rfl ?_
  refine w_p (pc1 := 180) (st1 := .int 1 :: _) rfl rfl ?_
  refine w_isub (pc1 := 181) (z := nI (wb + W.length)) rfl (nK_sub (Nat.le_add_left 1 _)) rfl ?_
  refine w_m0 (pc1 := 184) rfl rfl (h_pI (j := 52) rfl rfl rfl rfl rfl rfl rfl ⟨rfl, rfl⟩ rfl) rfl ?_
  refine w_p (pc1 := 185) rfl rfl ?_
  refine w_p (pc1 := 186) rfl rfl ?_
  refine w_m0 (pc1 := 189) (st1 := .int (nI (s.2.2.1)) :: _) rfl rfl (h_gIe (j := 45) rfl rfl rfl rfl rfl (M.2.2.2.2.2.1)) rfl ?_
  refine w_p (pc1 := 190) (st1 := .int 1 :: _) rfl rfl ?_
  refine w_isub (pc1 := 191) (u := nI (s.2.2.1)) (v := nI (1)) (z := nI (s.2.2.1 - 1)) rfl (nK_sub (by omega)) rfl ?_
  refine w_m0 (pc1 := 194) rfl rfl (h_pI (j := 45) rfl rfl rfl rfl rfl rfl rfl ⟨rfl, rfl⟩ rfl) rfl ?_
  refine w_p (pc1 := 195) rfl rfl ?_
  refine w_ji (pc1 := 198) (vs := [.ref 176]) (rest := []) (nA (d := _) M1 h6) rfl rfl rfl (fun _ _ => rfl) rfl (by exact cl_v my_195 rfl rfl rfl (Nat.le_of_ble_eq_true rfl) rfl (MH_obj rfl rfl) rfl (by decide) rfl rfl) (by rfl) (Nat.le_of_ble_eq_true rfl) (Nat.le_of_ble_eq_true rfl) rfl (fun v h1 d1 hq => ?_) (fun _ _ _ e => e.elim)
  rcases hq with ⟨hv, ⟨C2, Q2, hh⟩, hn⟩
  · subst hv; subst hh; subst hn
    refine w_p (pc1 := 219) rfl rfl ?_
    refine w_p (pc1 := 32) rfl rfl ?_
    exact H _ Q2
set_option maxRecDepth 100000 in
theorem r157x (hk : kd B n s.1 ≠ 45) (M : MK B n C0 C p b wb e s (W ++ [enX (1, 0)])) (H : ∀ C', FM B n C0 C' p b wb 0 2 s.1 → Wd L xs (d + 4) y_228 (225, [(0, .ref 176)], [], MH C' t, 0) P X) : Wd L xs (d + 4) y_228 (157, [(2, .int 1), (1, .int 1), (0, .ref 176)], [], MH C t, 0) P X := by
  have hF := FM_new (c := 2) M (by decide)
  refine w_p (pc1 := 158) rfl rfl ?_
  refine w_p (pc1 := 160) (st1 := .int 41 :: _) rfl rfl ?_
  refine w_je (pc1 := 163) (vs := [.ref 176, .int 41]) (rest := []) (st1 := [.int 0]) (m_210f (d := _) (sl := 0) (c := 41) ((sg_k (k := 45) M.2.1 (by decide) (by decide)).trans (decide_eq_false hk))) rfl rfl rfl (fun _ _ => rfl) rfl (by exact cl_v my_210 rfl rfl rfl (Nat.le_of_ble_eq_true rfl) rfl (MH_obj rfl rfl) rfl (by decide) rfl rfl) (by rfl) (Nat.le_of_ble_eq_true rfl) (Nat.le_of_ble_eq_true rfl) rfl (by rfl) ?_
  refine w_t (a := 201) (b := 166) rfl rfl rfl ?_
  refine w_p (pc1 := 202) (st1 := .int 0 :: _) rfl rfl ?_
  refine w_p (pc1 := 203) (al1 := [(2, .int 0), (1, .int 1), (0, .ref 176)]) rfl rfl ?_
  refine w_p (pc1 := 204) (st1 := .int 0 :: _) rfl rfl ?_
  refine w_p (pc1 := 205) (al1 := [(1, .int 0), (2, .int 0), (0, .ref 176)]) rfl rfl ?_
  refine w_p (pc1 := 206) rfl rfl ?_
  refine w_je (pc1 := 209) (vs := [.ref 176]) (rest := []) (st1 := [.int 1]) (tM (d := _) (x := (1, 0)) M) rfl rfl rfl (fun _ _ => rfl) rfl (by exact cl_v my_233 rfl rfl rfl (Nat.le_of_ble_eq_true rfl) rfl (MH_obj rfl rfl) rfl (by decide) rfl rfl) (by rfl) (Nat.le_of_ble_eq_true rfl) (Nat.le_of_ble_eq_true rfl) rfl (by rfl) ?_
  refine w_p (pc1 := 211) (st1 := .int 10 :: _) rfl rfl ?_
  refine w_f (a := 219) (b := 214) rfl rfl rfl ?_
  refine w_p (pc1 := 215) rfl rfl ?_
  refine w_p (pc1 := 216) (st1 := .int 2 :: _) rfl rfl ?_
  refine w_je (pc1 := 219) (vs := [.ref 176, .int 2]) (rest := []) (st1 := []) (m_200 (d := _) (sl := 0) (fun z => absurd M.2.1.2.1 z)) rfl rfl rfl (fun _ _ => rfl) rfl (by exact cl_v my_200 rfl rfl rfl (Nat.le_of_ble_eq_true rfl) rfl (MH_obj rfl rfl) rfl (by decide) rfl rfl) (by rfl) (Nat.le_of_ble_eq_true rfl) (Nat.le_of_ble_eq_true rfl) rfl (by rfl) ?_
  refine w_p (pc1 := 32) rfl rfl ?_
  refine w_p (pc1 := 33) rfl rfl ?_
  refine w_t (a := 222) (b := 36) rfl rfl rfl ?_
  refine w_p (pc1 := 9) rfl rfl ?_
  refine w_p (pc1 := 10) rfl rfl ?_
  refine w_t (a := 225) (b := 13) rfl rfl rfl ?_
  exact Wd_al (sb_0 (by simp) (by unfold wfa; simp)) (H _ hF)
set_option maxRecDepth 100000 in
theorem r157b (hk : kd B n s.1 = 45) (M : MK B n C0 C p b wb e s (W ++ [enX (10, 0)])) (H : Wd L xs (d + 4) y_228 (225, [(0, .ref 176)], [], MH C t, 0) P X) : Wd L xs (d + 4) y_228 (157, [(2, .int 1), (1, .int 1), (0, .ref 176)], [], MH C t, 0) P X := by
  refine w_p (pc1 := 158) rfl rfl ?_
  refine w_p (pc1 := 160) (st1 := .int 41 :: _) rfl rfl ?_
  refine w_je (pc1 := 163) (vs := [.ref 176, .int 41]) (rest := []) (st1 := [.int 1]) (m_210t (d := _) (sl := 0) (c := 41) ((sg_k (k := 45) M.2.1 (by decide) (by decide)).trans (decide_eq_true hk))) rfl rfl rfl (fun _ _ => rfl) rfl (by exact cl_v my_210 rfl rfl rfl (Nat.le_of_ble_eq_true rfl) rfl (MH_obj rfl rfl) rfl (by decide) rfl rfl) (by rfl) (Nat.le_of_ble_eq_true rfl) (Nat.le_of_ble_eq_true rfl) rfl (by rfl) ?_
  refine w_f (a := 201) (b := 166) rfl rfl rfl ?_
  refine w_p (pc1 := 167) rfl rfl ?_
  refine w_je (pc1 := 170) (vs := [.ref 176]) (rest := []) (st1 := [.int 10]) (tM (d := _) (x := (10, 0)) M) rfl rfl rfl (fun _ _ => rfl) rfl (by exact cl_v my_233 rfl rfl rfl (Nat.le_of_ble_eq_true rfl) rfl (MH_obj rfl rfl) rfl (by decide) rfl rfl) (by rfl) (Nat.le_of_ble_eq_true rfl) (Nat.le_of_ble_eq_true rfl) rfl (by rfl) ?_
  refine w_p (pc1 := 171) (st1 := .int 1 :: _) rfl rfl ?_
  refine w_t (a := 201) (b := 174) rfl rfl rfl ?_
  refine w_p (pc1 := 202) (st1 := .int 0 :: _) rfl rfl ?_
  refine w_p (pc1 := 203) (al1 := [(2, .int 0), (1, .int 1), (0, .ref 176)]) rfl rfl ?_
  refine w_p (pc1 := 204) (st1 := .int 0 :: _) rfl rfl ?_
  refine w_p (pc1 := 205) (al1 := [(1, .int 0), (2, .int 0), (0, .ref 176)]) rfl rfl ?_
  refine w_p (pc1 := 206) rfl rfl ?_
  refine w_je (pc1 := 209) (vs := [.ref 176]) (rest := []) (st1 := [.int 10]) (tM (d := _) (x := (10, 0)) M) rfl rfl rfl (fun _ _ => rfl) rfl (by exact cl_v my_233 rfl rfl rfl (Nat.le_of_ble_eq_true rfl) rfl (MH_obj rfl rfl) rfl (by decide) rfl rfl) (by rfl) (Nat.le_of_ble_eq_true rfl) (Nat.le_of_ble_eq_true rfl) rfl (by rfl) ?_
  refine w_p (pc1 := 211) (st1 := .int 10 :: _) rfl rfl ?_
  refine w_t (a := 219) (b := 214) rfl rfl rfl ?_
  refine w_p (pc1 := 32) rfl rfl ?_
  refine w_p (pc1 := 33) rfl rfl ?_
  refine w_t (a := 222) (b := 36) rfl rfl rfl ?_
  refine w_p (pc1 := 9) rfl rfl ?_
  refine w_p (pc1 := 10) rfl rfl ?_
  refine w_t (a := 225) (b := 13) rfl rfl rfl ?_
  exact Wd_al (sb_0 (by simp) (by unfold wfa; simp)) H
set_option maxRecDepth 100000 in
theorem r157d (hk : kd B n s.1 ≠ 45) (M : MK B n C0 C p b wb e s (W ++ [enX (10, 0)])) (H : Wd L xs (d + 4) y_228 (225, [(0, .ref 176)], [], MH C t, 0) P X) : Wd L xs (d + 4) y_228 (157, [(2, .int 1), (1, .int 1), (0, .ref 176)], [], MH C t, 0) P X := by
  refine w_p (pc1 := 158) rfl rfl ?_
  refine w_p (pc1 := 160) (st1 := .int 41 :: _) rfl rfl ?_
  refine w_je (pc1 := 163) (vs := [.ref 176, .int 41]) (rest := []) (st1 := [.int 0]) (m_210f (d := _) (sl := 0) (c := 41) ((sg_k (k := 45) M.2.1 (by decide) (by decide)).trans (decide_eq_false hk))) rfl rfl rfl (fun _ _ => rfl) rfl (by exact cl_v my_210 rfl rfl rfl (Nat.le_of_ble_eq_true rfl) rfl (MH_obj rfl rfl) rfl (by decide) rfl rfl) (by rfl) (Nat.le_of_ble_eq_true rfl) (Nat.le_of_ble_eq_true rfl) rfl (by rfl) ?_
  refine w_t (a := 201) (b := 166) rfl rfl rfl ?_
  refine w_p (pc1 := 202) (st1 := .int 0 :: _) rfl rfl ?_
  refine w_p (pc1 := 203) (al1 := [(2, .int 0), (1, .int 1), (0, .ref 176)]) rfl rfl ?_
  refine w_p (pc1 := 204) (st1 := .int 0 :: _) rfl rfl ?_
  refine w_p (pc1 := 205) (al1 := [(1, .int 0), (2, .int 0), (0, .ref 176)]) rfl rfl ?_
  refine w_p (pc1 := 206) rfl rfl ?_
  refine w_je (pc1 := 209) (vs := [.ref 176]) (rest := []) (st1 := [.int 10]) (tM (d := _) (x := (10, 0)) M) rfl rfl rfl (fun _ _ => rfl) rfl (by exact cl_v my_233 rfl rfl rfl (Nat.le_of_ble_eq_true rfl) rfl (MH_obj rfl rfl) rfl (by decide) rfl rfl) (by rfl) (Nat.le_of_ble_eq_true rfl) (Nat.le_of_ble_eq_true rfl) rfl (by rfl) ?_
  refine w_p (pc1 := 211) (st1 := .int 10 :: _) rfl rfl ?_
  refine w_t (a := 219) (b := 214) rfl rfl rfl ?_
  refine w_p (pc1 := 32) rfl rfl ?_
  refine w_p (pc1 := 33) rfl rfl ?_
  refine w_t (a := 222) (b := 36) rfl rfl rfl ?_
  refine w_p (pc1 := 9) rfl rfl ?_
  refine w_p (pc1 := 10) rfl rfl ?_
  refine w_t (a := 225) (b := 13) rfl rfl rfl ?_
  exact Wd_al (sb_0 (by simp) (by unfold wfa; simp)) H
set_option maxRecDepth 100000 in
theorem r225M (M : MK B n C0 C p b wb (e + 1) s (W ++ [(10, 0)])) (H : ∀ C', MK B n C0 C' p b wb e s W → P none (MH C' t) 0) : Wd L xs d y_228 (225, [(0, .ref 176)], [], MH C t, 0) P X := by
  have ht := MK_top M
  refine w_p (pc1 := 226) rfl rfl ?_
  refine w_m0 (pc1 := 229) (st1 := .int 0 :: _) rfl rfl (h_gIe (j := 8) rfl rfl rfl rfl rfl (M.2.1.2.1)) rfl ?_
  refine w_f (a := 242) (b := 232) rfl rfl rfl ?_
  refine w_p (pc1 := 233) rfl rfl ?_
  refine w_p (pc1 := 234) rfl rfl ?_
  refine w_m0 (pc1 := 237) (st1 := .int (nI (wb + W.length + 1)) :: _) rfl rfl (h_gIe (j := 52) rfl rfl rfl rfl rfl (ht.1)) rfl ?_
  refine w_p (pc1 := 238) (st1 := .int 1 :: _) rfl rfl ?_
  refine w_isub (pc1 := 239) (z := nI (wb + W.length)) rfl (nK_sub (Nat.le_add_left 1 _)) rfl ?_
  refine w_m0 (pc1 := 242) rfl rfl (h_pI (j := 52) rfl rfl rfl rfl rfl rfl rfl ⟨rfl, rfl⟩ rfl) rfl ?_
  refine w_r rfl rfl rfl (fun _ _ => rfl) rfl ?_
  exact H _ (MK_q M)
set_option maxRecDepth 100000 in
theorem r225F (F : FM B n C0 C p b wb f c i) (H : P none (MH C t) 0) : Wd L xs d y_228 (225, [(0, .ref 176)], [], MH C t, 0) P X := by
  have h0 : C.1 76 8 ≠ 0 := by rw [F.1.2.1]; exact F.1.1
  refine w_p (pc1 := 226) rfl rfl ?_
  refine w_m0 (pc1 := 229) rfl rfl (h_gI (j := 8) rfl rfl rfl rfl rfl) rfl ?_
  refine w_t (a := 242) (b := 232) (cb_ne_t (by exact h0)) rfl rfl ?_
  refine w_r rfl rfl rfl (fun _ _ => rfl) rfl ?_
  exact H
set_option maxRecDepth 100000 in
theorem r0 (M : MK B n C0 C p b wb e s W) (he : e < 12) (H : ∀ C', MK B n C0 C' p b wb (e + 1) s (W ++ [(10, 0)]) → Wd L xs (d + 1) y_228 (9, [(1, .int 1), (0, .ref 176)], [], MH C' t, 0) P X) : Wd L xs (d + 1) y_228 (0, [(0, .ref 176)], [], MH C t, 0) P X := by
  refine w_p (pc1 := 1) rfl rfl ?_
  refine w_p (pc1 := 3) (st1 := .int 10 :: _) rfl rfl ?_
  refine w_p (pc1 := 4) (st1 := .long 0 :: _) rfl rfl ?_
  refine w_ji (pc1 := 7) (vs := [.ref 176, .int 10, .long 0]) (rest := []) (pM (d := _) M he) rfl rfl rfl (fun _ _ => rfl) rfl (by exact cl_v my_224 rfl rfl rfl (Nat.le_of_ble_eq_true rfl) rfl (MH_obj rfl rfl) rfl (by decide) rfl rfl) (by rfl) (Nat.le_of_ble_eq_true rfl) (Nat.le_of_ble_eq_true rfl) rfl (fun v h1 d1 hq => ?_) (fun _ _ _ e => e.elim)
  rcases hq with ⟨hv, ⟨C1, M1, hh⟩, hn⟩
  · subst hv; subst hh; subst hn
    refine w_p (pc1 := 8) (st1 := .int 1 :: _) rfl rfl ?_
    refine w_p (pc1 := 9) (al1 := [(1, .int 1), (0, .ref 176)]) rfl rfl ?_
    exact H _ M1
end MSU
