
/-! THE OTHER SIDE READS A TABLE, 3: is there such a key -/
section MTC
variable {L : Nat} {xs : Nat → Int32} {B : Nat → Nat} {n : Nat} {C C' C0 C1 : co_T} {t : ab_H} {d i i0 i1 j b e p k w q : Nat} {U V : Nat → Prop} {c : Int32} {sc : sc_T} {row : Option Nat} {tg : Option (Nat × Nat)} {nl : Option Nat} {E : fe_T} {tr : Nat → Option tr_T}
variable {r : Nat} {l : List Nat} {o : Option Nat} {Tb : tb_S} {u : ru_T} {P : Option Value → ab_H → Nat → Prop} {cs : List Nat}
set_option maxRecDepth 100000 in
theorem lp_221t (hl : C.1 76 58 = nI l.length) (h24 : l.length ≤ 24) : ∀ m k : Nat, k + m = l.length → Wd L xs d y_221 (9, [(3, .int (nI k)), (2, .int 1), (0, .ref 176), (1, .int (nI q))], [], MH C t, 0) (Rt (some (.int 1)) (MH C t) 0) nX
  | 0, k, hk => by
    obtain rfl : k = l.length := by omega
    refine w_p (pc1 := 10) rfl rfl ?_
    refine w_p (pc1 := 11) rfl rfl ?_
    refine w_m0 (pc1 := 14) (st1 := .int (nI (l.length)) :: _) rfl rfl (h_gIe (j := 58) rfl rfl rfl rfl rfl (hl)) rfl ?_
    refine w_t (a := 43) (b := 17) (bN_ge_t (a := l.length) (b := l.length) (by omega) (by omega) (by omega)) rfl rfl ?_
    refine w_p (pc1 := 44) rfl rfl ?_
    refine w_r rfl rfl rfl (fun _ _ => rfl) rfl ?_
    exact ⟨rfl, rfl, rfl⟩
  | m + 1, k, hk => by
    refine w_p (pc1 := 10) rfl rfl ?_
    refine w_p (pc1 := 11) rfl rfl ?_
    refine w_m0 (pc1 := 14) (st1 := .int (nI (l.length)) :: _) rfl rfl (h_gIe (j := 58) rfl rfl rfl rfl rfl (hl)) rfl ?_
    refine w_f (a := 43) (b := 17) (bN_ge_f (a := k) (b := l.length) (by omega) (by omega) (by omega)) rfl rfl ?_
    refine w_p (pc1 := 18) rfl rfl ?_
    refine w_t (a := 31) (b := 21) rfl rfl rfl ?_
    refine w_p (pc1 := 32) (st1 := .int 1 :: _) rfl rfl ?_
    refine w_p (pc1 := 36) rfl rfl ?_
    refine w_p (pc1 := 37) (al1 := [(2, .int 1), (3, .int (nI (k))), (0, .ref 176), (1, .int (nI (q)))]) rfl rfl ?_
    refine w_iinc (pc1 := 40) (u := nI (k)) (z := nI (k + 1)) (al1 := [(3, .int (nI (k + 1))), (2, .int 1), (0, .ref 176), (1, .int (nI (q)))]) rfl rfl rfl nK_1 rfl rfl ?_
    refine w_p (pc1 := 9) rfl rfl ?_
    exact lp_221t hl h24 m (k + 1) (by omega)
set_option maxRecDepth 100000 in
theorem lp_221 (hl : C.1 76 58 = nI l.length) (h114 : ∀ k x, l[k]? = some x → C.1 114 k = nI x) (hx : ∀ x, x ∈ l → x < 24) (hq : q < 24) (h24 : l.length ≤ 24) : ∀ suf pre : List Nat, pre ++ suf = l → Wd L xs d y_221 (9, [(3, .int (nI pre.length)), (2, .int 0), (0, .ref 176), (1, .int (nI q))], [], MH C t, 0) (Rt (some (.int (ck (suf.contains q)))) (MH C t) 0) nX
  | [], pre, hp => by
    rw [List.append_nil] at hp
    subst hp
    refine w_p (pc1 := 10) rfl rfl ?_
    refine w_p (pc1 := 11) rfl rfl ?_
    refine w_m0 (pc1 := 14) (st1 := .int (nI (pre.length)) :: _) rfl rfl (h_gIe (j := 58) rfl rfl rfl rfl rfl (hl)) rfl ?_
    refine w_t (a := 43) (b := 17) (bN_ge_t (a := pre.length) (b := pre.length) (by omega) (by omega) (by omega)) rfl rfl ?_
    refine w_p (pc1 := 44) rfl rfl ?_
    refine w_r rfl rfl rfl (fun _ _ => rfl) rfl ?_
    exact ⟨rfl, rfl, rfl⟩
  | x :: suf, pre, hp => by
    have hlen : pre.length < l.length := by rw [← hp, List.length_append, List.length_cons]; omega
    have hget : l[pre.length]? = some x := by rw [← hp, List.getElem?_append_right (Nat.le_refl _), Nat.sub_self]; rfl
    have hx24 := hx x (by rw [← hp]; exact List.mem_append_right _ (List.mem_cons_self ..))
    by_cases he : x = q
    · have hz : (x :: suf).contains q = true := by
        rw [he]
        simp
      rw [hz]
      refine w_p (pc1 := 10) rfl rfl ?_
      refine w_p (pc1 := 11) rfl rfl ?_
      refine w_m0 (pc1 := 14) (st1 := .int (nI (l.length)) :: _) rfl rfl (h_gIe (j := 58) rfl rfl rfl rfl rfl (hl)) rfl ?_
      refine w_f (a := 43) (b := 17) (bN_ge_f (a := pre.length) (b := l.length) (by omega) (by omega) (by omega)) rfl rfl ?_
      refine w_p (pc1 := 18) rfl rfl ?_
      refine w_f (a := 31) (b := 21) rfl rfl rfl ?_
      refine w_p (pc1 := 22) rfl rfl ?_
      refine w_m0 (pc1 := 25) rfl rfl (h_gC rfl rfl rfl rfl) rfl ?_
      refine w_p (pc1 := 26) rfl rfl ?_
      refine w_m0 (pc1 := 27) (st1 := .int (nI (x)) :: _) rfl rfl (n_ile (e := pre.length) rfl rfl rfl (by omega) (h114 _ _ hget)) rfl ?_
      refine w_p (pc1 := 28) rfl rfl ?_
      refine w_f (a := 35) (b := 31) (bN_ne_f (a := x) (b := q) (by omega) (by omega) (by omega)) rfl rfl ?_
      refine w_p (pc1 := 32) (st1 := .int 1 :: _) rfl rfl ?_
      refine w_p (pc1 := 36) rfl rfl ?_
      refine w_p (pc1 := 37) (al1 := [(2, .int 1), (3, .int (nI (pre.length))), (0, .ref 176), (1, .int (nI (q)))]) rfl rfl ?_
      refine w_iinc (pc1 := 40) (u := nI (pre.length)) (z := nI (pre.length + 1)) (al1 := [(3, .int (nI (pre.length + 1))), (2, .int 1), (0, .ref 176), (1, .int (nI (q)))]) rfl rfl rfl nK_1 rfl rfl ?_
      refine w_p (pc1 := 9) rfl rfl ?_
      exact lp_221t hl h24 (l.length - (pre.length + 1)) (pre.length + 1) (by omega)
    · have hz : (x :: suf).contains q = suf.contains q := by
        simp [Ne.symm he]
      rw [hz]
      refine w_p (pc1 := 10) rfl rfl ?_
      refine w_p (pc1 := 11) rfl rfl ?_
      refine w_m0 (pc1 := 14) (st1 := .int (nI (l.length)) :: _) rfl rfl (h_gIe (j := 58) rfl rfl rfl rfl rfl (hl)) rfl ?_
      refine w_f (a := 43) (b := 17) (bN_ge_f (a := pre.length) (b := l.length) (by omega) (by omega) (by omega)) rfl rfl ?_
      refine w_p (pc1 := 18) rfl rfl ?_
      refine w_f (a := 31) (b := 21) rfl rfl rfl ?_
      refine w_p (pc1 := 22) rfl rfl ?_
      refine w_m0 (pc1 := 25) rfl rfl (h_gC rfl rfl rfl rfl) rfl ?_
      refine w_p (pc1 := 26) rfl rfl ?_
      refine w_m0 (pc1 := 27) (st1 := .int (nI (x)) :: _) rfl rfl (n_ile (e := pre.length) rfl rfl rfl (by omega) (h114 _ _ hget)) rfl ?_
      refine w_p (pc1 := 28) rfl rfl ?_
      refine w_t (a := 35) (b := 31) (bN_ne_t (a := x) (b := q) (by omega) (by omega) (by omega)) rfl rfl ?_
      refine w_p (pc1 := 36) (st1 := .int 0 :: _) rfl rfl ?_
      refine w_p (pc1 := 37) (al1 := [(2, .int 0), (3, .int (nI (pre.length))), (0, .ref 176), (1, .int (nI (q)))]) rfl rfl ?_
      refine w_iinc (pc1 := 40) (u := nI (pre.length)) (z := nI (pre.length + 1)) (al1 := [(3, .int (nI (pre.length + 1))), (2, .int 0), (0, .ref 176), (1, .int (nI (q)))]) rfl rfl rfl nK_1 rfl rfl ?_
      refine w_p (pc1 := 9) rfl rfl ?_
      have w := lp_221 hl h114 hx hq h24 suf (pre ++ [x]) (by rw [List.append_assoc]; exact hp)
      rw [List.length_append, List.length_singleton] at w
      exact w
set_option maxRecDepth 100000 in
theorem m_221 {z : Bool} (H : TMo C b Tb l (some r)) (hq : q < 24) (hqr : q ≠ r) (hz : (Tb.2.2 q).isSome = z) : Wd L xs d y_221 (0, [(0, .ref 176), (1, .int (nI q))], [], MH C t, 0) (Rt (some (.int (ck z))) (MH C t) 0) nX := by
  subst hz
  have hl := H.2.2.2.1.1
  have h114 := H.2.2.2.1.2.2.2
  have hx := fun x hx => (H.2.2.2.1.2.1 x hx).1
  have h24 := TMo_l H
  rcases H.2.2.2.2.1 q hq (by intro e; cases e; exact hqr rfl) with ⟨h1, h2, h3⟩ | ⟨u, h1, _, _, h4⟩
  · have e : ck (Tb.2.2 q).isSome = ck (l.contains q) := by
      have : l.contains q = false := by simpa using h3
      rw [h1, this]
      rfl
    rw [e]
    refine w_p (pc1 := 1) rfl rfl ?_
    refine w_m0 (pc1 := 4) rfl rfl (h_gC rfl rfl rfl rfl) rfl ?_
    refine w_p (pc1 := 5) rfl rfl ?_
    refine w_m0 (pc1 := 6) (st1 := .int 0 :: _) rfl rfl (n_ble (e := q) rfl rfl (by decide) rfl (by omega) (h2)) rfl ?_
    refine w_p (pc1 := 7) (al1 := [(2, .int 0), (0, .ref 176), (1, .int (nI (q)))]) rfl rfl ?_
    refine w_p (pc1 := 8) (st1 := .int 0 :: _) rfl rfl ?_
    refine w_p (pc1 := 9) (al1 := [(3, .int 0), (2, .int 0), (0, .ref 176), (1, .int (nI (q)))]) rfl rfl ?_
    exact lp_221 hl h114 hx hq h24 l [] rfl
  · rw [h1]
    rcases h4 with h4 | ⟨h4, h5⟩
    · skip
      refine w_p (pc1 := 1) rfl rfl ?_
      refine w_m0 (pc1 := 4) rfl rfl (h_gC rfl rfl rfl rfl) rfl ?_
      refine w_p (pc1 := 5) rfl rfl ?_
      refine w_m0 (pc1 := 6) (st1 := .int 1 :: _) rfl rfl (n_ble (e := q) rfl rfl (by decide) rfl (by omega) (h4)) rfl ?_
      refine w_p (pc1 := 7) (al1 := [(2, .int 1), (0, .ref 176), (1, .int (nI (q)))]) rfl rfl ?_
      refine w_p (pc1 := 8) (st1 := .int 0 :: _) rfl rfl ?_
      refine w_p (pc1 := 9) (al1 := [(3, .int 0), (2, .int 1), (0, .ref 176), (1, .int (nI (q)))]) rfl rfl ?_
      exact lp_221t hl h24 l.length 0 (by omega)
    · have e : ck (some u).isSome = ck (l.contains q) := by
        have : l.contains q = true := by simpa using h5
        rw [this]
        rfl
      rw [e]
      refine w_p (pc1 := 1) rfl rfl ?_
      refine w_m0 (pc1 := 4) rfl rfl (h_gC rfl rfl rfl rfl) rfl ?_
      refine w_p (pc1 := 5) rfl rfl ?_
      refine w_m0 (pc1 := 6) (st1 := .int 0 :: _) rfl rfl (n_ble (e := q) rfl rfl (by decide) rfl (by omega) (h4)) rfl ?_
      refine w_p (pc1 := 7) (al1 := [(2, .int 0), (0, .ref 176), (1, .int (nI (q)))]) rfl rfl ?_
      refine w_p (pc1 := 8) (st1 := .int 0 :: _) rfl rfl ?_
      refine w_p (pc1 := 9) (al1 := [(3, .int 0), (2, .int 0), (0, .ref 176), (1, .int (nI (q)))]) rfl rfl ?_
      exact lp_221 hl h114 hx hq h24 l [] rfl
set_option maxRecDepth 100000 in
theorem lp_220i {cu : List Nat} (hq : q < 24) (hr : r < 24) (h8 : arI (C.1 88) (6 * q) cu) (h9 : arI (C.1 89) (6 * r) cs) (hn : cs.length = w) (hu : cu.length = w) (h6 : w ≤ 6) (b6 : ∀ x, x ∈ cu → x < 6) (c6 : ∀ x, x ∈ cs → x < 6) {z : Bool} (H : ∀ k', Wd L xs d y_220 (131, [(6, .int (nI k')), (5, .int (ck z)), (4, .int (nI q)), (0, .ref 176), (1, .int (nI e)), (2, .int (nI r)), (3, .int (nI w))], [], MH C t, 0) P nX) : ∀ suf pre suf' pre' : List Nat, pre ++ suf = cu → pre' ++ suf' = cs → pre'.length = pre.length → z = decide (suf = suf') → Wd L xs d y_220 (79, [(6, .int (nI pre.length)), (5, .int 1), (4, .int (nI q)), (0, .ref 176), (1, .int (nI e)), (2, .int (nI r)), (3, .int (nI w))], [], MH C t, 0) P nX
  | [], pre, suf', pre', hp, hp', hl, hz => by
    rw [List.append_nil] at hp
    subst hp
    have : suf' = [] := by
      have h := congrArg List.length hp'
      rw [List.length_append] at h
      exact List.length_eq_zero_iff.mp (by omega)
    subst this
    have hz : z = true := hz
    subst hz
    refine w_p (pc1 := 81) rfl rfl ?_
    refine w_p (pc1 := 82) rfl rfl ?_
    refine w_t (a := 131) (b := 85) (bN_ge_t (a := pre.length) (b := w) (by omega) (by omega) (by omega)) rfl rfl ?_
    exact H pre.length
  | x :: suf, pre, [], pre', hp, hp', hl, hz => by
    exfalso
    have h1 := congrArg List.length hp'
    have h2 := congrArg List.length hp
    rw [List.length_append] at h1 h2
    simp only [List.length_cons, List.length_nil] at h1 h2
    omega
  | x :: suf, pre, y :: suf', pre', hp, hp', hl, hz => by
    have hlen : pre.length < w := by rw [← hu, ← hp, List.length_append, List.length_cons]; omega
    have hget : cu[pre.length]? = some x := by rw [← hp, List.getElem?_append_right (Nat.le_refl _), Nat.sub_self]; rfl
    have hget' : cs[pre.length]? = some y := by rw [← hp', ← hl, List.getElem?_append_right (Nat.le_refl _), Nat.sub_self]; rfl
    have hx6 := b6 x (by rw [← hp]; exact List.mem_append_right _ (List.mem_cons_self ..))
    have hy6 := c6 y (by rw [← hp']; exact List.mem_append_right _ (List.mem_cons_self ..))
    by_cases he : x = y
    · have hz : z = decide (suf = suf') := by
        rw [hz]
        simp [he]
      refine w_p (pc1 := 81) rfl rfl ?_
      refine w_p (pc1 := 82) rfl rfl ?_
      refine w_f (a := 131) (b := 85) (bN_ge_f (a := pre.length) (b := w) (by omega) (by omega) (by omega)) rfl rfl ?_
      refine w_p (pc1 := 87) rfl rfl ?_
      refine w_f (a := 131) (b := 90) rfl rfl rfl ?_
      refine w_p (pc1 := 91) rfl rfl ?_
      refine w_m0 (pc1 := 94) rfl rfl (h_gC rfl rfl rfl rfl) rfl ?_
      refine w_p (pc1 := 96) (st1 := .int 6 :: _) rfl rfl ?_
      refine w_p (pc1 := 98) rfl rfl ?_
      refine w_imul (pc1 := 99) (u := nI (6)) (v := nI (q)) (z := nI (6 * q)) rfl (nK_mul) rfl ?_
      refine w_p (pc1 := 101) rfl rfl ?_
      refine w_iadd (pc1 := 102) (u := nI (6 * q)) (v := nI (pre.length)) (z := nI (6 * q + (pre.length))) rfl (nK_add) rfl ?_
      refine w_m0 (pc1 := 103) (st1 := .int (nI (x)) :: _) rfl rfl (n_ile (e := 6 * q + (pre.length)) rfl rfl rfl (by omega) (h8 _ _ hget)) rfl ?_
      refine w_p (pc1 := 104) rfl rfl ?_
      refine w_m0 (pc1 := 107) rfl rfl (h_gC rfl rfl rfl rfl) rfl ?_
      refine w_p (pc1 := 109) (st1 := .int 6 :: _) rfl rfl ?_
      refine w_p (pc1 := 110) rfl rfl ?_
      refine w_imul (pc1 := 111) (u := nI (6)) (v := nI (r)) (z := nI (6 * r)) rfl (nK_mul) rfl ?_
      refine w_p (pc1 := 113) rfl rfl ?_
      refine w_iadd (pc1 := 114) (u := nI (6 * r)) (v := nI (pre.length)) (z := nI (6 * r + (pre.length))) rfl (nK_add) rfl ?_
      refine w_m0 (pc1 := 115) (st1 := .int (nI (y)) :: _) rfl rfl (n_ile (e := 6 * r + (pre.length)) rfl rfl rfl (by omega) (h9 _ _ hget')) rfl ?_
      refine w_f (a := 122) (b := 118) (bN_ne_f (a := x) (b := y) (by omega) (by omega) (by omega)) rfl rfl ?_
      refine w_p (pc1 := 119) (st1 := .int 1 :: _) rfl rfl ?_
      refine w_p (pc1 := 123) rfl rfl ?_
      refine w_p (pc1 := 125) (al1 := [(5, .int 1), (6, .int (nI (pre.length))), (4, .int (nI (q))), (0, .ref 176), (1, .int (nI (e))), (2, .int (nI (r))), (3, .int (nI (w)))]) rfl rfl ?_
      refine w_iinc (pc1 := 128) (u := nI (pre.length)) (z := nI (pre.length + 1)) (al1 := [(6, .int (nI (pre.length + 1))), (5, .int 1), (4, .int (nI (q))), (0, .ref 176), (1, .int (nI (e))), (2, .int (nI (r))), (3, .int (nI (w)))]) rfl rfl rfl nK_1 rfl rfl ?_
      refine w_p (pc1 := 79) rfl rfl ?_
      have w := lp_220i hq hr h8 h9 hn hu h6 b6 c6 H suf (pre ++ [x]) suf' (pre' ++ [y]) (by rw [List.append_assoc]; exact hp) (by rw [List.append_assoc]; exact hp') (by rw [List.length_append, List.length_append, hl]; rfl) hz
      rw [List.length_append, List.length_singleton] at w
      exact w
    · have hz : z = false := by
        rw [hz]
        simp [he]
      subst hz
      refine w_p (pc1 := 81) rfl rfl ?_
      refine w_p (pc1 := 82) rfl rfl ?_
      refine w_f (a := 131) (b := 85) (bN_ge_f (a := pre.length) (b := w) (by omega) (by omega) (by omega)) rfl rfl ?_
      refine w_p (pc1 := 87) rfl rfl ?_
      refine w_f (a := 131) (b := 90) rfl rfl rfl ?_
      refine w_p (pc1 := 91) rfl rfl ?_
      refine w_m0 (pc1 := 94) rfl rfl (h_gC rfl rfl rfl rfl) rfl ?_
      refine w_p (pc1 := 96) (st1 := .int 6 :: _) rfl rfl ?_
      refine w_p (pc1 := 98) rfl rfl ?_
      refine w_imul (pc1 := 99) (u := nI (6)) (v := nI (q)) (z := nI (6 * q)) rfl (nK_mul) rfl ?_
      refine w_p (pc1 := 101) rfl rfl ?_
      refine w_iadd (pc1 := 102) (u := nI (6 * q)) (v := nI (pre.length)) (z := nI (6 * q + (pre.length))) rfl (nK_add) rfl ?_
      refine w_m0 (pc1 := 103) (st1 := .int (nI (x)) :: _) rfl rfl (n_ile (e := 6 * q + (pre.length)) rfl rfl rfl (by omega) (h8 _ _ hget)) rfl ?_
      refine w_p (pc1 := 104) rfl rfl ?_
      refine w_m0 (pc1 := 107) rfl rfl (h_gC rfl rfl rfl rfl) rfl ?_
      refine w_p (pc1 := 109) (st1 := .int 6 :: _) rfl rfl ?_
      refine w_p (pc1 := 110) rfl rfl ?_
      refine w_imul (pc1 := 111) (u := nI (6)) (v := nI (r)) (z := nI (6 * r)) rfl (nK_mul) rfl ?_
      refine w_p (pc1 := 113) rfl rfl ?_
      refine w_iadd (pc1 := 114) (u := nI (6 * r)) (v := nI (pre.length)) (z := nI (6 * r + (pre.length))) rfl (nK_add) rfl ?_
      refine w_m0 (pc1 := 115) (st1 := .int (nI (y)) :: _) rfl rfl (n_ile (e := 6 * r + (pre.length)) rfl rfl rfl (by omega) (h9 _ _ hget')) rfl ?_
      refine w_t (a := 122) (b := 118) (bN_ne_t (a := x) (b := y) (by omega) (by omega) (by omega)) rfl rfl ?_
      refine w_p (pc1 := 123) (st1 := .int 0 :: _) rfl rfl ?_
      refine w_p (pc1 := 125) (al1 := [(5, .int 0), (6, .int (nI (pre.length))), (4, .int (nI (q))), (0, .ref 176), (1, .int (nI (e))), (2, .int (nI (r))), (3, .int (nI (w)))]) rfl rfl ?_
      refine w_iinc (pc1 := 128) (u := nI (pre.length)) (z := nI (pre.length + 1)) (al1 := [(6, .int (nI (pre.length + 1))), (5, .int 0), (4, .int (nI (q))), (0, .ref 176), (1, .int (nI (e))), (2, .int (nI (r))), (3, .int (nI (w)))]) rfl rfl rfl nK_1 rfl rfl ?_
      refine w_p (pc1 := 79) rfl rfl ?_
      refine w_p (pc1 := 81) rfl rfl ?_
      refine w_p (pc1 := 82) rfl rfl ?_
      refine w_b (a := 131) (b := 85) rfl rfl (fun c82 => ?_) (fun c82 => ?_)
      · replace c82 := cN_ge_t (a := pre.length + 1) (b := w) (by omega) (by omega) c82
        exact H (pre.length + 1)
      · replace c82 := cN_ge_f (a := pre.length + 1) (b := w) (by omega) (by omega) c82
        refine w_p (pc1 := 87) rfl rfl ?_
        refine w_t (a := 131) (b := 90) rfl rfl rfl ?_
        exact H (pre.length + 1)
/-! no key here: on to the next -/
set_option maxRecDepth 100000 in
theorem lp_220 (H : TMo C b Tb l (some r)) (hr : r < 24) (he6 : e < 6) (h9 : arI (C.1 89) (6 * r) cs) (hn : cs.length = w) (h6 : w ≤ 6) (c6 : ∀ x, x ∈ cs → x < 6) (hok : ∀ i u, Tb.2.2 i = some u → okRu u) : ∀ m q : Nat, q + m = 24 → Wd L xs (d + 1) y_220 (3, [(4, .int (nI q)), (0, .ref 176), (1, .int (nI e)), (2, .int (nI r)), (3, .int (nI w))], [], MH C t, 0) (Rt (some (.int (ck (kyA Tb.2.2 e cs m q)))) (MH C t) 0) nX
  | 0, q, hq => by
    obtain rfl : q = 24 := by omega
    refine w_p (pc1 := 5) rfl rfl ?_
    refine w_p (pc1 := 7) (st1 := .int 24 :: _) rfl rfl ?_
    refine w_t (a := 144) (b := 10) rfl rfl rfl ?_
    refine w_p (pc1 := 145) (st1 := .int 0 :: _) rfl rfl ?_
    refine w_r rfl rfl rfl (fun _ _ => rfl) rfl ?_
    exact ⟨rfl, rfl, rfl⟩
  | m + 1, q, hq => by
    have hq24 : q < 24 := by omega
    have H0 : ∀ k2, kyA Tb.2.2 e cs (m + 1) q = kyA Tb.2.2 e cs m (q + 1) → Wd L xs (d + 1) y_220 (131, [(6, .int (nI k2)), (5, .int 0), (4, .int (nI q)), (0, .ref 176), (1, .int (nI e)), (2, .int (nI r)), (3, .int (nI w))], [], MH C t, 0) (Rt (some (.int (ck (kyA Tb.2.2 e cs (m + 1) q)))) (MH C t) 0) nX := by
      intro k2 hk2
      rw [hk2]
      refine w_p (pc1 := 133) rfl rfl ?_
      refine w_t (a := 138) (b := 136) rfl rfl rfl ?_
      refine w_iinc (pc1 := 141) (u := nI (q)) (z := nI (q + 1)) (al1 := [(4, .int (nI (q + 1))), (6, .int (nI (k2))), (5, .int 0), (0, .ref 176), (1, .int (nI (e))), (2, .int (nI (r))), (3, .int (nI (w)))]) rfl rfl rfl nK_1 rfl rfl ?_
      refine w_p (pc1 := 3) rfl rfl ?_
      refine Wd_al (al := [(4, .int (nI (q + 1))), (0, .ref 176), (1, .int (nI (e))), (2, .int (nI (r))), (3, .int (nI (w)))]) (sba_p [0, 3, 4, 5, 6] rfl rfl) ?_
      exact lp_220 H hr he6 h9 hn h6 c6 hok m (q + 1) (by omega)
    have H1 : kyA Tb.2.2 e cs (m + 1) q = kyA Tb.2.2 e cs m (q + 1) → Wd L xs (d + 1) y_220 (79, [(6, .int (nI 0)), (5, .int 0), (4, .int (nI q)), (0, .ref 176), (1, .int (nI e)), (2, .int (nI r)), (3, .int (nI w))], [], MH C t, 0) (Rt (some (.int (ck (kyA Tb.2.2 e cs (m + 1) q)))) (MH C t) 0) nX := by
      intro hk2
      refine w_p (pc1 := 81) rfl rfl ?_
      refine w_p (pc1 := 82) rfl rfl ?_
      refine w_b (a := 131) (b := 85) rfl rfl (fun c82 => ?_) (fun c82 => ?_)
      · replace c82 := cN_ge_t (a := 0) (b := w) (by omega) (by omega) c82
        exact H0 _ hk2
      · replace c82 := cN_ge_f (a := 0) (b := w) (by omega) (by omega) c82
        refine w_p (pc1 := 87) rfl rfl ?_
        refine w_t (a := 131) (b := 90) rfl rfl rfl ?_
        exact H0 _ hk2
    by_cases hqr : q = r
    · have hky : kyA Tb.2.2 e cs (m + 1) q = kyA Tb.2.2 e cs m (q + 1) := by
        rw [kyA, hqr, (H.2.2.2.2.2.1 r rfl).2.1]
        rfl
      refine w_p (pc1 := 5) rfl rfl ?_
      refine w_p (pc1 := 7) (st1 := .int 24 :: _) rfl rfl ?_
      refine w_f (a := 144) (b := 10) (bN_ge_f (a := q) (b := 24) (by omega) (by omega) (by omega)) rfl rfl ?_
      refine w_p (pc1 := 12) rfl rfl ?_
      refine w_p (pc1 := 13) rfl rfl ?_
      refine w_t (a := 73) (b := 16) (bN_eq_t (a := q) (b := r) (by omega) (by omega) (by omega)) rfl rfl ?_
      refine w_p (pc1 := 74) (st1 := .int 0 :: _) rfl rfl ?_
      refine w_p (pc1 := 76) (al1 := [(5, .int 0), (4, .int (nI (q))), (0, .ref 176), (1, .int (nI (e))), (2, .int (nI (r))), (3, .int (nI (w)))]) rfl rfl ?_
      refine w_p (pc1 := 77) (st1 := .int 0 :: _) rfl rfl ?_
      refine w_p (pc1 := 79) (al1 := [(6, .int 0), (5, .int 0), (4, .int (nI (q))), (0, .ref 176), (1, .int (nI (e))), (2, .int (nI (r))), (3, .int (nI (w)))]) rfl rfl ?_
      exact H1 hky
    · cases hu : Tb.2.2 q with
      | none =>
        have hky : kyA Tb.2.2 e cs (m + 1) q = kyA Tb.2.2 e cs m (q + 1) := by
          rw [kyA, hu]
          rfl
        refine w_p (pc1 := 5) rfl rfl ?_
        refine w_p (pc1 := 7) (st1 := .int 24 :: _) rfl rfl ?_
        refine w_f (a := 144) (b := 10) (bN_ge_f (a := q) (b := 24) (by omega) (by omega) (by omega)) rfl rfl ?_
        refine w_p (pc1 := 12) rfl rfl ?_
        refine w_p (pc1 := 13) rfl rfl ?_
        refine w_f (a := 73) (b := 16) (bN_eq_f (a := q) (b := r) (by omega) (by omega) (by omega)) rfl rfl ?_
        refine w_p (pc1 := 17) rfl rfl ?_
        refine w_p (pc1 := 19) rfl rfl ?_
        refine w_je (pc1 := 22) (vs := [.ref 176, .int (nI (q))]) (rest := []) (st1 := [.int 0]) (m_221 (d := _) (z := false) H hq24 hqr (by rw [hu]; rfl)) rfl rfl rfl (fun _ _ => rfl) rfl (by exact cl_v my_221 rfl rfl rfl (Nat.le_of_ble_eq_true rfl) rfl (MH_obj rfl rfl) rfl (by decide) rfl rfl) (by rfl) (Nat.le_of_ble_eq_true rfl) (Nat.le_of_ble_eq_true rfl) rfl (by rfl) ?_
        refine w_t (a := 73) (b := 25) rfl rfl rfl ?_
        refine w_p (pc1 := 74) (st1 := .int 0 :: _) rfl rfl ?_
        refine w_p (pc1 := 76) (al1 := [(5, .int 0), (4, .int (nI (q))), (0, .ref 176), (1, .int (nI (e))), (2, .int (nI (r))), (3, .int (nI (w)))]) rfl rfl ?_
        refine w_p (pc1 := 77) (st1 := .int 0 :: _) rfl rfl ?_
        refine w_p (pc1 := 79) (al1 := [(6, .int 0), (5, .int 0), (4, .int (nI (q))), (0, .ref 176), (1, .int (nI (e))), (2, .int (nI (r))), (3, .int (nI (w)))]) rfl rfl ?_
        exact H1 hky
      | some u =>
        have hRU : RUM C q u := by
          rcases H.2.2.2.2.1 q hq24 (by intro e; cases e; exact hqr rfl) with ⟨h1, _⟩ | ⟨u2, h1, h2, _⟩
          · rw [hu] at h1
            cases h1
          · rw [hu] at h1
            cases h1
            exact h2
        obtain ⟨o1, o2, o3, o4⟩ := hok q u hu
        have hk1 : kyA Tb.2.2 e cs (m + 1) q = ((decide (rTb u = e) && kyO u cs) || kyA Tb.2.2 e cs m (q + 1)) := by
          rw [kyA, hu]
        by_cases ht : rTb u = e
        · by_cases hkd : rKd u = 1 ∨ rKd u = 2
          · by_cases hlen : (rCs u).length = w
            · have H131 : ∀ k2, Wd L xs (d + 1) y_220 (131, [(6, .int (nI k2)), (5, .int (ck (decide (rCs u = cs)))), (4, .int (nI q)), (0, .ref 176), (1, .int (nI e)), (2, .int (nI r)), (3, .int (nI w))], [], MH C t, 0) (Rt (some (.int (ck (kyA Tb.2.2 e cs (m + 1) q)))) (MH C t) 0) nX := by
                intro k2
                by_cases hcc : rCs u = cs
                · have hky : kyA Tb.2.2 e cs (m + 1) q = true := by
                    rw [hk1]
                    unfold kyO
                    rcases hkd with h | h <;> simp [ht, h, hcc]
                  rw [hky, decide_eq_true hcc]
                  refine w_p (pc1 := 133) rfl rfl ?_
                  refine w_f (a := 138) (b := 136) rfl rfl rfl ?_
                  refine w_p (pc1 := 137) (st1 := .int 1 :: _) rfl rfl ?_
                  refine w_r rfl rfl rfl (fun _ _ => rfl) rfl ?_
                  exact ⟨rfl, rfl, rfl⟩
                · have hky : kyA Tb.2.2 e cs (m + 1) q = kyA Tb.2.2 e cs m (q + 1) := by
                    rw [hk1]
                    unfold kyO
                    simp [hcc]
                  rw [decide_eq_false hcc]
                  exact H0 k2 hky
              have W79 : Wd L xs (d + 1) y_220 (79, [(6, .int (nI 0)), (5, .int 1), (4, .int (nI q)), (0, .ref 176), (1, .int (nI e)), (2, .int (nI r)), (3, .int (nI w))], [], MH C t, 0) (Rt (some (.int (ck (kyA Tb.2.2 e cs (m + 1) q)))) (MH C t) 0) nX := lp_220i hq24 hr hRU.1.2.2.2.2.1 h9 hn hlen h6 o2 c6 H131 (rCs u) [] cs [] rfl rfl rfl rfl
              by_cases h1 : rKd u = 1
              · skip
                refine w_p (pc1 := 5) rfl rfl ?_
                refine w_p (pc1 := 7) (st1 := .int 24 :: _) rfl rfl ?_
                refine w_f (a := 144) (b := 10) (bN_ge_f (a := q) (b := 24) (by omega) (by omega) (by omega)) rfl rfl ?_
                refine w_p (pc1 := 12) rfl rfl ?_
                refine w_p (pc1 := 13) rfl rfl ?_
                refine w_f (a := 73) (b := 16) (bN_eq_f (a := q) (b := r) (by omega) (by omega) (by omega)) rfl rfl ?_
                refine w_p (pc1 := 17) rfl rfl ?_
                refine w_p (pc1 := 19) rfl rfl ?_
                refine w_je (pc1 := 22) (vs := [.ref 176, .int (nI (q))]) (rest := []) (st1 := [.int 1]) (m_221 (d := _) (z := true) H hq24 hqr (by rw [hu]; rfl)) rfl rfl rfl (fun _ _ => rfl) rfl (by exact cl_v my_221 rfl rfl rfl (Nat.le_of_ble_eq_true rfl) rfl (MH_obj rfl rfl) rfl (by decide) rfl rfl) (by rfl) (Nat.le_of_ble_eq_true rfl) (Nat.le_of_ble_eq_true rfl) rfl (by rfl) ?_
                refine w_f (a := 73) (b := 25) rfl rfl rfl ?_
                refine w_p (pc1 := 26) rfl rfl ?_
                refine w_m0 (pc1 := 29) rfl rfl (h_gC rfl rfl rfl rfl) rfl ?_
                refine w_p (pc1 := 31) rfl rfl ?_
                refine w_m0 (pc1 := 32) (st1 := .int (nI (rTb u)) :: _) rfl rfl (n_ile (e := q) rfl rfl rfl (by omega) (hRU.1.2.1)) rfl ?_
                refine w_p (pc1 := 33) rfl rfl ?_
                refine w_f (a := 73) (b := 36) (bN_ne_f (a := rTb u) (b := e) (by omega) (by omega) (by omega)) rfl rfl ?_
                refine w_p (pc1 := 37) rfl rfl ?_
                refine w_m0 (pc1 := 40) rfl rfl (h_gC rfl rfl rfl rfl) rfl ?_
                refine w_p (pc1 := 42) rfl rfl ?_
                refine w_m0 (pc1 := 43) (st1 := .int (nI (rKd u)) :: _) rfl rfl (n_ile (e := q) rfl rfl rfl (by omega) (hRU.1.1)) rfl ?_
                refine w_p (pc1 := 44) (st1 := .int 1 :: _) rfl rfl ?_
                refine w_t (a := 58) (b := 47) (bN_eq_t (a := rKd u) (b := 1) (by omega) (by omega) (by omega)) rfl rfl ?_
                refine w_p (pc1 := 59) rfl rfl ?_
                refine w_m0 (pc1 := 62) rfl rfl (h_gC rfl rfl rfl rfl) rfl ?_
                refine w_p (pc1 := 64) rfl rfl ?_
                refine w_m0 (pc1 := 65) (st1 := .int (nI ((rCs u).length)) :: _) rfl rfl (n_ile (e := q) rfl rfl rfl (by omega) (hRU.1.2.2.2.1)) rfl ?_
                refine w_p (pc1 := 66) rfl rfl ?_
                refine w_f (a := 73) (b := 69) (bN_ne_f (a := (rCs u).length) (b := w) (by omega) (by omega) (by omega)) rfl rfl ?_
                refine w_p (pc1 := 70) (st1 := .int 1 :: _) rfl rfl ?_
                refine w_p (pc1 := 74) rfl rfl ?_
                refine w_p (pc1 := 76) (al1 := [(5, .int 1), (4, .int (nI (q))), (0, .ref 176), (1, .int (nI (e))), (2, .int (nI (r))), (3, .int (nI (w)))]) rfl rfl ?_
                refine w_p (pc1 := 77) (st1 := .int 0 :: _) rfl rfl ?_
                refine w_p (pc1 := 79) (al1 := [(6, .int 0), (5, .int 1), (4, .int (nI (q))), (0, .ref 176), (1, .int (nI (e))), (2, .int (nI (r))), (3, .int (nI (w)))]) rfl rfl ?_
                exact W79
              · have h2 : rKd u = 2 := by omega
                refine w_p (pc1 := 5) rfl rfl ?_
                refine w_p (pc1 := 7) (st1 := .int 24 :: _) rfl rfl ?_
                refine w_f (a := 144) (b := 10) (bN_ge_f (a := q) (b := 24) (by omega) (by omega) (by omega)) rfl rfl ?_
                refine w_p (pc1 := 12) rfl rfl ?_
                refine w_p (pc1 := 13) rfl rfl ?_
                refine w_f (a := 73) (b := 16) (bN_eq_f (a := q) (b := r) (by omega) (by omega) (by omega)) rfl rfl ?_
                refine w_p (pc1 := 17) rfl rfl ?_
                refine w_p (pc1 := 19) rfl rfl ?_
                refine w_je (pc1 := 22) (vs := [.ref 176, .int (nI (q))]) (rest := []) (st1 := [.int 1]) (m_221 (d := _) (z := true) H hq24 hqr (by rw [hu]; rfl)) rfl rfl rfl (fun _ _ => rfl) rfl (by exact cl_v my_221 rfl rfl rfl (Nat.le_of_ble_eq_true rfl) rfl (MH_obj rfl rfl) rfl (by decide) rfl rfl) (by rfl) (Nat.le_of_ble_eq_true rfl) (Nat.le_of_ble_eq_true rfl) rfl (by rfl) ?_
                refine w_f (a := 73) (b := 25) rfl rfl rfl ?_
                refine w_p (pc1 := 26) rfl rfl ?_
                refine w_m0 (pc1 := 29) rfl rfl (h_gC rfl rfl rfl rfl) rfl ?_
                refine w_p (pc1 := 31) rfl rfl ?_
                refine w_m0 (pc1 := 32) (st1 := .int (nI (rTb u)) :: _) rfl rfl (n_ile (e := q) rfl rfl rfl (by omega) (hRU.1.2.1)) rfl ?_
                refine w_p (pc1 := 33) rfl rfl ?_
                refine w_f (a := 73) (b := 36) (bN_ne_f (a := rTb u) (b := e) (by omega) (by omega) (by omega)) rfl rfl ?_
                refine w_p (pc1 := 37) rfl rfl ?_
                refine w_m0 (pc1 := 40) rfl rfl (h_gC rfl rfl rfl rfl) rfl ?_
                refine w_p (pc1 := 42) rfl rfl ?_
                refine w_m0 (pc1 := 43) (st1 := .int (nI (rKd u)) :: _) rfl rfl (n_ile (e := q) rfl rfl rfl (by omega) (hRU.1.1)) rfl ?_
                refine w_p (pc1 := 44) (st1 := .int 1 :: _) rfl rfl ?_
                refine w_f (a := 58) (b := 47) (bN_eq_f (a := rKd u) (b := 1) (by omega) (by omega) (by omega)) rfl rfl ?_
                refine w_p (pc1 := 48) rfl rfl ?_
                refine w_m0 (pc1 := 51) rfl rfl (h_gC rfl rfl rfl rfl) rfl ?_
                refine w_p (pc1 := 53) rfl rfl ?_
                refine w_m0 (pc1 := 54) (st1 := .int (nI (rKd u)) :: _) rfl rfl (n_ile (e := q) rfl rfl rfl (by omega) (hRU.1.1)) rfl ?_
                refine w_p (pc1 := 55) (st1 := .int 2 :: _) rfl rfl ?_
                refine w_f (a := 73) (b := 58) (bN_ne_f (a := rKd u) (b := 2) (by omega) (by omega) (by omega)) rfl rfl ?_
                refine w_p (pc1 := 59) rfl rfl ?_
                refine w_m0 (pc1 := 62) rfl rfl (h_gC rfl rfl rfl rfl) rfl ?_
                refine w_p (pc1 := 64) rfl rfl ?_
                refine w_m0 (pc1 := 65) (st1 := .int (nI ((rCs u).length)) :: _) rfl rfl (n_ile (e := q) rfl rfl rfl (by omega) (hRU.1.2.2.2.1)) rfl ?_
                refine w_p (pc1 := 66) rfl rfl ?_
                refine w_f (a := 73) (b := 69) (bN_ne_f (a := (rCs u).length) (b := w) (by omega) (by omega) (by omega)) rfl rfl ?_
                refine w_p (pc1 := 70) (st1 := .int 1 :: _) rfl rfl ?_
                refine w_p (pc1 := 74) rfl rfl ?_
                refine w_p (pc1 := 76) (al1 := [(5, .int 1), (4, .int (nI (q))), (0, .ref 176), (1, .int (nI (e))), (2, .int (nI (r))), (3, .int (nI (w)))]) rfl rfl ?_
                refine w_p (pc1 := 77) (st1 := .int 0 :: _) rfl rfl ?_
                refine w_p (pc1 := 79) (al1 := [(6, .int 0), (5, .int 1), (4, .int (nI (q))), (0, .ref 176), (1, .int (nI (e))), (2, .int (nI (r))), (3, .int (nI (w)))]) rfl rfl ?_
                exact W79
            · have hcc : rCs u ≠ cs := fun h => hlen (by rw [h]; exact hn)
              have hky : kyA Tb.2.2 e cs (m + 1) q = kyA Tb.2.2 e cs m (q + 1) := by
                rw [hk1]
                unfold kyO
                simp [hcc]
              by_cases h1 : rKd u = 1
              · skip
                refine w_p (pc1 := 5) rfl rfl ?_
                refine w_p (pc1 := 7) (st1 := .int 24 :: _) rfl rfl ?_
                refine w_f (a := 144) (b := 10) (bN_ge_f (a := q) (b := 24) (by omega) (by omega) (by omega)) rfl rfl ?_
                refine w_p (pc1 := 12) rfl rfl ?_
                refine w_p (pc1 := 13) rfl rfl ?_
                refine w_f (a := 73) (b := 16) (bN_eq_f (a := q) (b := r) (by omega) (by omega) (by omega)) rfl rfl ?_
                refine w_p (pc1 := 17) rfl rfl ?_
                refine w_p (pc1 := 19) rfl rfl ?_
                refine w_je (pc1 := 22) (vs := [.ref 176, .int (nI (q))]) (rest := []) (st1 := [.int 1]) (m_221 (d := _) (z := true) H hq24 hqr (by rw [hu]; rfl)) rfl rfl rfl (fun _ _ => rfl) rfl (by exact cl_v my_221 rfl rfl rfl (Nat.le_of_ble_eq_true rfl) rfl (MH_obj rfl rfl) rfl (by decide) rfl rfl) (by rfl) (Nat.le_of_ble_eq_true rfl) (Nat.le_of_ble_eq_true rfl) rfl (by rfl) ?_
                refine w_f (a := 73) (b := 25) rfl rfl rfl ?_
                refine w_p (pc1 := 26) rfl rfl ?_
                refine w_m0 (pc1 := 29) rfl rfl (h_gC rfl rfl rfl rfl) rfl ?_
                refine w_p (pc1 := 31) rfl rfl ?_
                refine w_m0 (pc1 := 32) (st1 := .int (nI (rTb u)) :: _) rfl rfl (n_ile (e := q) rfl rfl rfl (by omega) (hRU.1.2.1)) rfl ?_
                refine w_p (pc1 := 33) rfl rfl ?_
                refine w_f (a := 73) (b := 36) (bN_ne_f (a := rTb u) (b := e) (by omega) (by omega) (by omega)) rfl rfl ?_
                refine w_p (pc1 := 37) rfl rfl ?_
                refine w_m0 (pc1 := 40) rfl rfl (h_gC rfl rfl rfl rfl) rfl ?_
                refine w_p (pc1 := 42) rfl rfl ?_
                refine w_m0 (pc1 := 43) (st1 := .int (nI (rKd u)) :: _) rfl rfl (n_ile (e := q) rfl rfl rfl (by omega) (hRU.1.1)) rfl ?_
                refine w_p (pc1 := 44) (st1 := .int 1 :: _) rfl rfl ?_
                refine w_t (a := 58) (b := 47) (bN_eq_t (a := rKd u) (b := 1) (by omega) (by omega) (by omega)) rfl rfl ?_
                refine w_p (pc1 := 59) rfl rfl ?_
                refine w_m0 (pc1 := 62) rfl rfl (h_gC rfl rfl rfl rfl) rfl ?_
                refine w_p (pc1 := 64) rfl rfl ?_
                refine w_m0 (pc1 := 65) (st1 := .int (nI ((rCs u).length)) :: _) rfl rfl (n_ile (e := q) rfl rfl rfl (by omega) (hRU.1.2.2.2.1)) rfl ?_
                refine w_p (pc1 := 66) rfl rfl ?_
                refine w_t (a := 73) (b := 69) (bN_ne_t (a := (rCs u).length) (b := w) (by omega) (by omega) (by omega)) rfl rfl ?_
                refine w_p (pc1 := 74) (st1 := .int 0 :: _) rfl rfl ?_
                refine w_p (pc1 := 76) (al1 := [(5, .int 0), (4, .int (nI (q))), (0, .ref 176), (1, .int (nI (e))), (2, .int (nI (r))), (3, .int (nI (w)))]) rfl rfl ?_
                refine w_p (pc1 := 77) (st1 := .int 0 :: _) rfl rfl ?_
                refine w_p (pc1 := 79) (al1 := [(6, .int 0), (5, .int 0), (4, .int (nI (q))), (0, .ref 176), (1, .int (nI (e))), (2, .int (nI (r))), (3, .int (nI (w)))]) rfl rfl ?_
                exact H1 hky
              · have h2 : rKd u = 2 := by omega
                refine w_p (pc1 := 5) rfl rfl ?_
                refine w_p (pc1 := 7) (st1 := .int 24 :: _) rfl rfl ?_
                refine w_f (a := 144) (b := 10) (bN_ge_f (a := q) (b := 24) (by omega) (by omega) (by omega)) rfl rfl ?_
                refine w_p (pc1 := 12) rfl rfl ?_
                refine w_p (pc1 := 13) rfl rfl ?_
                refine w_f (a := 73) (b := 16) (bN_eq_f (a := q) (b := r) (by omega) (by omega) (by omega)) rfl rfl ?_
                refine w_p (pc1 := 17) rfl rfl ?_
                refine w_p (pc1 := 19) rfl rfl ?_
                refine w_je (pc1 := 22) (vs := [.ref 176, .int (nI (q))]) (rest := []) (st1 := [.int 1]) (m_221 (d := _) (z := true) H hq24 hqr (by rw [hu]; rfl)) rfl rfl rfl (fun _ _ => rfl) rfl (by exact cl_v my_221 rfl rfl rfl (Nat.le_of_ble_eq_true rfl) rfl (MH_obj rfl rfl) rfl (by decide) rfl rfl) (by rfl) (Nat.le_of_ble_eq_true rfl) (Nat.le_of_ble_eq_true rfl) rfl (by rfl) ?_
                refine w_f (a := 73) (b := 25) rfl rfl rfl ?_
                refine w_p (pc1 := 26) rfl rfl ?_
                refine w_m0 (pc1 := 29) rfl rfl (h_gC rfl rfl rfl rfl) rfl ?_
                refine w_p (pc1 := 31) rfl rfl ?_
                refine w_m0 (pc1 := 32) (st1 := .int (nI (rTb u)) :: _) rfl rfl (n_ile (e := q) rfl rfl rfl (by omega) (hRU.1.2.1)) rfl ?_
                refine w_p (pc1 := 33) rfl rfl ?_
                refine w_f (a := 73) (b := 36) (bN_ne_f (a := rTb u) (b := e) (by omega) (by omega) (by omega)) rfl rfl ?_
                refine w_p (pc1 := 37) rfl rfl ?_
                refine w_m0 (pc1 := 40) rfl rfl (h_gC rfl rfl rfl rfl) rfl ?_
                refine w_p (pc1 := 42) rfl rfl ?_
                refine w_m0 (pc1 := 43) (st1 := .int (nI (rKd u)) :: _) rfl rfl (n_ile (e := q) rfl rfl rfl (by omega) (hRU.1.1)) rfl ?_
                refine w_p (pc1 := 44) (st1 := .int 1 :: _) rfl rfl ?_
                refine w_f (a := 58) (b := 47) (bN_eq_f (a := rKd u) (b := 1) (by omega) (by omega) (by omega)) rfl rfl ?_
                refine w_p (pc1 := 48) rfl rfl ?_
                refine w_m0 (pc1 := 51) rfl rfl (h_gC rfl rfl rfl rfl) rfl ?_
                refine w_p (pc1 := 53) rfl rfl ?_
                refine w_m0 (pc1 := 54) (st1 := .int (nI (rKd u)) :: _) rfl rfl (n_ile (e := q) rfl rfl rfl (by omega) (hRU.1.1)) rfl ?_
                refine w_p (pc1 := 55) (st1 := .int 2 :: _) rfl rfl ?_
                refine w_f (a := 73) (b := 58) (bN_ne_f (a := rKd u) (b := 2) (by omega) (by omega) (by omega)) rfl rfl ?_
                refine w_p (pc1 := 59) rfl rfl ?_
                refine w_m0 (pc1 := 62) rfl rfl (h_gC rfl rfl rfl rfl) rfl ?_
                refine w_p (pc1 := 64) rfl rfl ?_
                refine w_m0 (pc1 := 65) (st1 := .int (nI ((rCs u).length)) :: _) rfl rfl (n_ile (e := q) rfl rfl rfl (by omega) (hRU.1.2.2.2.1)) rfl ?_
                refine w_p (pc1 := 66) rfl rfl ?_
                refine w_t (a := 73) (b := 69) (bN_ne_t (a := (rCs u).length) (b := w) (by omega) (by omega) (by omega)) rfl rfl ?_
                refine w_p (pc1 := 74) (st1 := .int 0 :: _) rfl rfl ?_
                refine w_p (pc1 := 76) (al1 := [(5, .int 0), (4, .int (nI (q))), (0, .ref 176), (1, .int (nI (e))), (2, .int (nI (r))), (3, .int (nI (w)))]) rfl rfl ?_
                refine w_p (pc1 := 77) (st1 := .int 0 :: _) rfl rfl ?_
                refine w_p (pc1 := 79) (al1 := [(6, .int 0), (5, .int 0), (4, .int (nI (q))), (0, .ref 176), (1, .int (nI (e))), (2, .int (nI (r))), (3, .int (nI (w)))]) rfl rfl ?_
                exact H1 hky
          · have hky : kyA Tb.2.2 e cs (m + 1) q = kyA Tb.2.2 e cs m (q + 1) := by
              rw [hk1]
              unfold kyO
              simp only [not_or] at hkd
              simp [hkd.1, hkd.2]
            refine w_p (pc1 := 5) rfl rfl ?_
            refine w_p (pc1 := 7) (st1 := .int 24 :: _) rfl rfl ?_
            refine w_f (a := 144) (b := 10) (bN_ge_f (a := q) (b := 24) (by omega) (by omega) (by omega)) rfl rfl ?_
            refine w_p (pc1 := 12) rfl rfl ?_
            refine w_p (pc1 := 13) rfl rfl ?_
            refine w_f (a := 73) (b := 16) (bN_eq_f (a := q) (b := r) (by omega) (by omega) (by omega)) rfl rfl ?_
            refine w_p (pc1 := 17) rfl rfl ?_
            refine w_p (pc1 := 19) rfl rfl ?_
            refine w_je (pc1 := 22) (vs := [.ref 176, .int (nI (q))]) (rest := []) (st1 := [.int 1]) (m_221 (d := _) (z := true) H hq24 hqr (by rw [hu]; rfl)) rfl rfl rfl (fun _ _ => rfl) rfl (by exact cl_v my_221 rfl rfl rfl (Nat.le_of_ble_eq_true rfl) rfl (MH_obj rfl rfl) rfl (by decide) rfl rfl) (by rfl) (Nat.le_of_ble_eq_true rfl) (Nat.le_of_ble_eq_true rfl) rfl (by rfl) ?_
            refine w_f (a := 73) (b := 25) rfl rfl rfl ?_
            refine w_p (pc1 := 26) rfl rfl ?_
            refine w_m0 (pc1 := 29) rfl rfl (h_gC rfl rfl rfl rfl) rfl ?_
            refine w_p (pc1 := 31) rfl rfl ?_
            refine w_m0 (pc1 := 32) (st1 := .int (nI (rTb u)) :: _) rfl rfl (n_ile (e := q) rfl rfl rfl (by omega) (hRU.1.2.1)) rfl ?_
            refine w_p (pc1 := 33) rfl rfl ?_
            refine w_f (a := 73) (b := 36) (bN_ne_f (a := rTb u) (b := e) (by omega) (by omega) (by omega)) rfl rfl ?_
            refine w_p (pc1 := 37) rfl rfl ?_
            refine w_m0 (pc1 := 40) rfl rfl (h_gC rfl rfl rfl rfl) rfl ?_
            refine w_p (pc1 := 42) rfl rfl ?_
            refine w_m0 (pc1 := 43) (st1 := .int (nI (rKd u)) :: _) rfl rfl (n_ile (e := q) rfl rfl rfl (by omega) (hRU.1.1)) rfl ?_
            refine w_p (pc1 := 44) (st1 := .int 1 :: _) rfl rfl ?_
            refine w_f (a := 58) (b := 47) (bN_eq_f (a := rKd u) (b := 1) (by omega) (by omega) (by omega)) rfl rfl ?_
            refine w_p (pc1 := 48) rfl rfl ?_
            refine w_m0 (pc1 := 51) rfl rfl (h_gC rfl rfl rfl rfl) rfl ?_
            refine w_p (pc1 := 53) rfl rfl ?_
            refine w_m0 (pc1 := 54) (st1 := .int (nI (rKd u)) :: _) rfl rfl (n_ile (e := q) rfl rfl rfl (by omega) (hRU.1.1)) rfl ?_
            refine w_p (pc1 := 55) (st1 := .int 2 :: _) rfl rfl ?_
            refine w_t (a := 73) (b := 58) (bN_ne_t (a := rKd u) (b := 2) (by omega) (by omega) (by omega)) rfl rfl ?_
            refine w_p (pc1 := 74) (st1 := .int 0 :: _) rfl rfl ?_
            refine w_p (pc1 := 76) (al1 := [(5, .int 0), (4, .int (nI (q))), (0, .ref 176), (1, .int (nI (e))), (2, .int (nI (r))), (3, .int (nI (w)))]) rfl rfl ?_
            refine w_p (pc1 := 77) (st1 := .int 0 :: _) rfl rfl ?_
            refine w_p (pc1 := 79) (al1 := [(6, .int 0), (5, .int 0), (4, .int (nI (q))), (0, .ref 176), (1, .int (nI (e))), (2, .int (nI (r))), (3, .int (nI (w)))]) rfl rfl ?_
            exact H1 hky
        · have hky : kyA Tb.2.2 e cs (m + 1) q = kyA Tb.2.2 e cs m (q + 1) := by
            rw [hk1]
            simp [ht]
          refine w_p (pc1 := 5) rfl rfl ?_
          refine w_p (pc1 := 7) (st1 := .int 24 :: _) rfl rfl ?_
          refine w_f (a := 144) (b := 10) (bN_ge_f (a := q) (b := 24) (by omega) (by omega) (by omega)) rfl rfl ?_
          refine w_p (pc1 := 12) rfl rfl ?_
          refine w_p (pc1 := 13) rfl rfl ?_
          refine w_f (a := 73) (b := 16) (bN_eq_f (a := q) (b := r) (by omega) (by omega) (by omega)) rfl rfl ?_
          refine w_p (pc1 := 17) rfl rfl ?_
          refine w_p (pc1 := 19) rfl rfl ?_
          refine w_je (pc1 := 22) (vs := [.ref 176, .int (nI (q))]) (rest := []) (st1 := [.int 1]) (m_221 (d := _) (z := true) H hq24 hqr (by rw [hu]; rfl)) rfl rfl rfl (fun _ _ => rfl) rfl (by exact cl_v my_221 rfl rfl rfl (Nat.le_of_ble_eq_true rfl) rfl (MH_obj rfl rfl) rfl (by decide) rfl rfl) (by rfl) (Nat.le_of_ble_eq_true rfl) (Nat.le_of_ble_eq_true rfl) rfl (by rfl) ?_
          refine w_f (a := 73) (b := 25) rfl rfl rfl ?_
          refine w_p (pc1 := 26) rfl rfl ?_
          refine w_m0 (pc1 := 29) rfl rfl (h_gC rfl rfl rfl rfl) rfl ?_
          refine w_p (pc1 := 31) rfl rfl ?_
          refine w_m0 (pc1 := 32) (st1 := .int (nI (rTb u)) :: _) rfl rfl (n_ile (e := q) rfl rfl rfl (by omega) (hRU.1.2.1)) rfl ?_
          refine w_p (pc1 := 33) rfl rfl ?_
          refine w_t (a := 73) (b := 36) (bN_ne_t (a := rTb u) (b := e) (by omega) (by omega) (by omega)) rfl rfl ?_
          refine w_p (pc1 := 74) (st1 := .int 0 :: _) rfl rfl ?_
          refine w_p (pc1 := 76) (al1 := [(5, .int 0), (4, .int (nI (q))), (0, .ref 176), (1, .int (nI (e))), (2, .int (nI (r))), (3, .int (nI (w)))]) rfl rfl ?_
          refine w_p (pc1 := 77) (st1 := .int 0 :: _) rfl rfl ?_
          refine w_p (pc1 := 79) (al1 := [(6, .int 0), (5, .int 0), (4, .int (nI (q))), (0, .ref 176), (1, .int (nI (e))), (2, .int (nI (r))), (3, .int (nI (w)))]) rfl rfl ?_
          exact H1 hky
set_option maxRecDepth 100000 in
theorem m_220 {z : Bool} (H : TMo C b Tb l (some r)) (hr : r < 24) (he6 : e < 6) (h9 : arI (C.1 89) (6 * r) cs) (hn : cs.length = w) (h6 : w ≤ 6) (c6 : ∀ x, x ∈ cs → x < 6) (hok : ∀ i u, Tb.2.2 i = some u → okRu u) (hz : kyA Tb.2.2 e cs 24 0 = z) : Wd L xs (d + 1) y_220 (0, [(0, .ref 176), (1, .int (nI e)), (2, .int (nI r)), (3, .int (nI w))], [], MH C t, 0) (Rt (some (.int (ck z))) (MH C t) 0) nX := by
  subst hz
  refine w_p (pc1 := 1) (st1 := .int 0 :: _) rfl rfl ?_
  refine w_p (pc1 := 3) (al1 := [(4, .int 0), (0, .ref 176), (1, .int (nI (e))), (2, .int (nI (r))), (3, .int (nI (w)))]) rfl rfl ?_
  exact lp_220 H hr he6 h9 hn h6 c6 hok 24 0 (by omega)
end MTC
