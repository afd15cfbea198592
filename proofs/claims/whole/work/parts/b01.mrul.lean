
/-! THE OTHER SIDE READS A TABLE, 2: a place for a rule; which rules there are -/
section MTB
variable {L : Nat} {xs : Nat → Int32} {B : Nat → Nat} {n : Nat} {C C' C0 C1 : co_T} {t : ab_H} {d i i0 i1 j b e p k w q : Nat} {U V : Nat → Prop} {c : Int32} {sc : sc_T} {row : Option Nat} {tg : Option (Nat × Nat)} {nl : Option Nat} {E : fe_T} {tr : Nat → Option tr_T}
variable {r : Nat} {l : List Nat} {o : Option Nat} {Tb : tb_S} {u : ru_T} {P : Option Value → ab_H → Nat → Prop}
set_option maxRecDepth 100000 in
theorem i215f (hl : C.1 76 58 = nI l.length) (hr : r < 24) (h24 : l.length ≤ 24) (hk : k ≤ 24) (H : ∀ k', Wd L xs d y_215 (59, [(3, .int (nI k')), (2, .int 0), (1, .int (nI r)), (0, .ref 176)], [], MH C t, 0) P nX) : Wd L xs d y_215 (25, [(3, .int (nI k)), (2, .int 0), (1, .int (nI r)), (0, .ref 176)], [], MH C t, 0) P nX := by
  refine w_p (pc1 := 26) rfl rfl ?_
  refine w_p (pc1 := 27) rfl rfl ?_
  refine w_m0 (pc1 := 30) (st1 := .int (nI (l.length)) :: _) rfl rfl (h_gIe (j := 58) rfl rfl rfl rfl rfl (hl)) rfl ?_
  refine w_b (a := 59) (b := 33) rfl rfl (fun c30 => ?_) (fun c30 => ?_)
  · replace c30 := cN_ge_t (a := k) (b := l.length) (by omega) (by omega) c30
    exact H k
  · replace c30 := cN_ge_f (a := k) (b := l.length) (by omega) (by omega) c30
    refine w_p (pc1 := 34) rfl rfl ?_
    refine w_t (a := 59) (b := 37) rfl rfl rfl ?_
    exact H k
set_option maxRecDepth 100000 in
theorem lp_215i (hl : C.1 76 58 = nI l.length) (h114 : ∀ k x, l[k]? = some x → C.1 114 k = nI x) (hx : ∀ x, x ∈ l → x < 24) (hr : r < 24) (h24 : l.length ≤ 24) {z : Bool} (H : ∀ k', Wd L xs d y_215 (59, [(3, .int (nI k')), (2, .int (ck z)), (1, .int (nI r)), (0, .ref 176)], [], MH C t, 0) P nX) : ∀ suf pre : List Nat, pre ++ suf = l → z = !suf.contains r → Wd L xs d y_215 (25, [(3, .int (nI pre.length)), (2, .int 1), (1, .int (nI r)), (0, .ref 176)], [], MH C t, 0) P nX
  | [], pre, hp, hz => by
    have hz : z = true := hz
    subst hz
    rw [List.append_nil] at hp
    subst hp
    refine w_p (pc1 := 26) rfl rfl ?_
    refine w_p (pc1 := 27) rfl rfl ?_
    refine w_m0 (pc1 := 30) (st1 := .int (nI (pre.length)) :: _) rfl rfl (h_gIe (j := 58) rfl rfl rfl rfl rfl (hl)) rfl ?_
    refine w_t (a := 59) (b := 33) (bN_ge_t (a := pre.length) (b := pre.length) (by omega) (by omega) (by omega)) rfl rfl ?_
    exact H pre.length
  | x :: suf, pre, hp, hz => by
    have hlen : pre.length < l.length := by rw [← hp, List.length_append, List.length_cons]; omega
    have hget : l[pre.length]? = some x := by rw [← hp, List.getElem?_append_right (Nat.le_refl _), Nat.sub_self]; rfl
    have hx24 := hx x (by rw [← hp]; exact List.mem_append_right _ (List.mem_cons_self ..))
    by_cases he : x = r
    · have hz : z = false := by
        rw [hz, he]
        simp
      subst hz
      refine w_p (pc1 := 26) rfl rfl ?_
      refine w_p (pc1 := 27) rfl rfl ?_
      refine w_m0 (pc1 := 30) (st1 := .int (nI (l.length)) :: _) rfl rfl (h_gIe (j := 58) rfl rfl rfl rfl rfl (hl)) rfl ?_
      refine w_f (a := 59) (b := 33) (bN_ge_f (a := pre.length) (b := l.length) (by omega) (by omega) (by omega)) rfl rfl ?_
      refine w_p (pc1 := 34) rfl rfl ?_
      refine w_f (a := 59) (b := 37) rfl rfl rfl ?_
      refine w_p (pc1 := 38) rfl rfl ?_
      refine w_m0 (pc1 := 41) rfl rfl (h_gC rfl rfl rfl rfl) rfl ?_
      refine w_p (pc1 := 42) rfl rfl ?_
      refine w_m0 (pc1 := 43) (st1 := .int (nI (x)) :: _) rfl rfl (n_ile (e := pre.length) rfl rfl rfl (by omega) (h114 _ _ hget)) rfl ?_
      refine w_p (pc1 := 44) rfl rfl ?_
      refine w_t (a := 51) (b := 47) (bN_eq_t (a := x) (b := r) (by omega) (by omega) (by omega)) rfl rfl ?_
      refine w_p (pc1 := 52) (st1 := .int 0 :: _) rfl rfl ?_
      refine w_p (pc1 := 53) (al1 := [(2, .int 0), (3, .int (nI (pre.length))), (1, .int (nI (r))), (0, .ref 176)]) rfl rfl ?_
      refine w_iinc (pc1 := 56) (u := nI (pre.length)) (z := nI (pre.length + 1)) (al1 := [(3, .int (nI (pre.length + 1))), (2, .int 0), (1, .int (nI (r))), (0, .ref 176)]) rfl rfl rfl nK_1 rfl rfl ?_
      refine w_p (pc1 := 25) rfl rfl ?_
      exact i215f hl hr h24 (by omega) H
    · have hz : z = !suf.contains r := by
        rw [hz]
        simp [Ne.symm he]
      refine w_p (pc1 := 26) rfl rfl ?_
      refine w_p (pc1 := 27) rfl rfl ?_
      refine w_m0 (pc1 := 30) (st1 := .int (nI (l.length)) :: _) rfl rfl (h_gIe (j := 58) rfl rfl rfl rfl rfl (hl)) rfl ?_
      refine w_f (a := 59) (b := 33) (bN_ge_f (a := pre.length) (b := l.length) (by omega) (by omega) (by omega)) rfl rfl ?_
      refine w_p (pc1 := 34) rfl rfl ?_
      refine w_f (a := 59) (b := 37) rfl rfl rfl ?_
      refine w_p (pc1 := 38) rfl rfl ?_
      refine w_m0 (pc1 := 41) rfl rfl (h_gC rfl rfl rfl rfl) rfl ?_
      refine w_p (pc1 := 42) rfl rfl ?_
      refine w_m0 (pc1 := 43) (st1 := .int (nI (x)) :: _) rfl rfl (n_ile (e := pre.length) rfl rfl rfl (by omega) (h114 _ _ hget)) rfl ?_
      refine w_p (pc1 := 44) rfl rfl ?_
      refine w_f (a := 51) (b := 47) (bN_eq_f (a := x) (b := r) (by omega) (by omega) (by omega)) rfl rfl ?_
      refine w_p (pc1 := 48) (st1 := .int 1 :: _) rfl rfl ?_
      refine w_p (pc1 := 52) rfl rfl ?_
      refine w_p (pc1 := 53) (al1 := [(2, .int 1), (3, .int (nI (pre.length))), (1, .int (nI (r))), (0, .ref 176)]) rfl rfl ?_
      refine w_iinc (pc1 := 56) (u := nI (pre.length)) (z := nI (pre.length + 1)) (al1 := [(3, .int (nI (pre.length + 1))), (2, .int 1), (1, .int (nI (r))), (0, .ref 176)]) rfl rfl rfl nK_1 rfl rfl ?_
      refine w_p (pc1 := 25) rfl rfl ?_
      have w := lp_215i hl h114 hx hr h24 H suf (pre ++ [x]) (by rw [List.append_assoc]; exact hp) hz
      rw [List.length_append, List.length_singleton] at w
      exact w
set_option maxRecDepth 100000 in
theorem TMo_q (H : TMo C b Tb l none) (hq : q < 24) : (Tb.2.2 q = none ∧ C.1 83 q = 0 ∧ l.contains q = false) ∨ (∃ u, Tb.2.2 q = some u ∧ (C.1 83 q = 1 ∨ (C.1 83 q = 0 ∧ l.contains q = true))) := by
  rcases H.2.2.2.2.1 q hq (by intro e; cases e) with ⟨h1, h2, h3⟩ | ⟨u, h1, _, _, h4⟩
  · exact Or.inl ⟨h1, h2, by simpa using h3⟩
  · refine Or.inr ⟨u, h1, ?_⟩
    rcases h4 with h4 | ⟨h4, h5⟩
    · exact Or.inl h4
    · exact Or.inr ⟨h4, by simpa using h5⟩
set_option maxRecDepth 100000 in
theorem lp_215 (H : TMo C b Tb l none) : ∀ m k : Nat, k + m = 24 → Wd L xs d y_215 (2, [(1, .int (nI k)), (0, .ref 176)], [], MH C t, 0) (Rt (some (.int (fnd (fun j => (Tb.2.2 j).isNone) m k))) (MH C t) 0) nX
  | 0, k, hk => by
    obtain rfl : k = 24 := by omega
    refine w_p (pc1 := 3) rfl rfl ?_
    refine w_p (pc1 := 5) (st1 := .int 24 :: _) rfl rfl ?_
    refine w_t (a := 71) (b := 8) rfl rfl rfl ?_
    refine w_p (pc1 := 72) (st1 := .int (-1) :: _) rfl rfl ?_
    refine w_r rfl rfl rfl (fun _ _ => rfl) cr_int ?_
    exact ⟨rfl, rfl, rfl⟩
  | m + 1, k, hk => by
    have hl := H.2.2.2.1.1
    have h114 := H.2.2.2.1.2.2.2
    have hx := fun x hx => (H.2.2.2.1.2.1 x hx).1
    have h24 := TMo_l H
    rcases TMo_q H (show k < 24 by omega) with ⟨h1, h2, h3⟩ | ⟨u, h1, h2⟩
    · have e : fnd (fun j => (Tb.2.2 j).isNone) (m + 1) k = nI k := by rw [fnd, h1]; rfl
      rw [e]
      refine w_p (pc1 := 3) rfl rfl ?_
      refine w_p (pc1 := 5) (st1 := .int 24 :: _) rfl rfl ?_
      refine w_f (a := 71) (b := 8) (bN_ge_f (a := k) (b := 24) (by omega) (by omega) (by omega)) rfl rfl ?_
      refine w_p (pc1 := 9) rfl rfl ?_
      refine w_m0 (pc1 := 12) rfl rfl (h_gC rfl rfl rfl rfl) rfl ?_
      refine w_p (pc1 := 13) rfl rfl ?_
      refine w_m0 (pc1 := 14) (st1 := .int 0 :: _) rfl rfl (n_ble (e := k) rfl rfl (by decide) rfl (by omega) (h2)) rfl ?_
      refine w_f (a := 21) (b := 17) rfl rfl rfl ?_
      refine w_p (pc1 := 18) (st1 := .int 1 :: _) rfl rfl ?_
      refine w_p (pc1 := 22) rfl rfl ?_
      refine w_p (pc1 := 23) (al1 := [(2, .int 1), (1, .int (nI (k))), (0, .ref 176)]) rfl rfl ?_
      refine w_p (pc1 := 24) (st1 := .int 0 :: _) rfl rfl ?_
      refine w_p (pc1 := 25) (al1 := [(3, .int 0), (2, .int 1), (1, .int (nI (k))), (0, .ref 176)]) rfl rfl ?_
      refine lp_215i (z := true) hl h114 hx (by omega) h24 (fun k2 => ?_) l [] rfl (by rw [h3]; rfl)
      refine w_p (pc1 := 60) rfl rfl ?_
      refine w_f (a := 65) (b := 63) rfl rfl rfl ?_
      refine w_p (pc1 := 64) rfl rfl ?_
      refine w_r rfl rfl rfl (fun _ _ => rfl) cr_int ?_
      exact ⟨rfl, rfl, rfl⟩
    · have e : fnd (fun j => (Tb.2.2 j).isNone) (m + 1) k = fnd (fun j => (Tb.2.2 j).isNone) m (k + 1) := by rw [fnd, h1]; rfl
      rw [e]
      have H2 : ∀ k2, Wd L xs d y_215 (59, [(3, .int (nI k2)), (2, .int 0), (1, .int (nI k)), (0, .ref 176)], [], MH C t, 0) (Rt (some (.int (fnd (fun j => (Tb.2.2 j).isNone) m (k + 1)))) (MH C t) 0) nX := by
        intro k2
        refine w_p (pc1 := 60) rfl rfl ?_
        refine w_t (a := 65) (b := 63) rfl rfl rfl ?_
        refine w_iinc (pc1 := 68) (u := nI (k)) (z := nI (k + 1)) (al1 := [(1, .int (nI (k + 1))), (3, .int (nI (k2))), (2, .int 0), (0, .ref 176)]) rfl rfl rfl nK_1 rfl rfl ?_
        refine w_p (pc1 := 2) rfl rfl ?_
        refine Wd_al (al := [(1, .int (nI (k + 1))), (0, .ref 176)]) (sba_p [0, 3] rfl rfl) ?_
        exact lp_215 H m (k + 1) (by omega)
      rcases h2 with h2 | ⟨h2, h3⟩
      · skip
        refine w_p (pc1 := 3) rfl rfl ?_
        refine w_p (pc1 := 5) (st1 := .int 24 :: _) rfl rfl ?_
        refine w_f (a := 71) (b := 8) (bN_ge_f (a := k) (b := 24) (by omega) (by omega) (by omega)) rfl rfl ?_
        refine w_p (pc1 := 9) rfl rfl ?_
        refine w_m0 (pc1 := 12) rfl rfl (h_gC rfl rfl rfl rfl) rfl ?_
        refine w_p (pc1 := 13) rfl rfl ?_
        refine w_m0 (pc1 := 14) (st1 := .int 1 :: _) rfl rfl (n_ble (e := k) rfl rfl (by decide) rfl (by omega) (h2)) rfl ?_
        refine w_t (a := 21) (b := 17) rfl rfl rfl ?_
        refine w_p (pc1 := 22) (st1 := .int 0 :: _) rfl rfl ?_
        refine w_p (pc1 := 23) (al1 := [(2, .int 0), (1, .int (nI (k))), (0, .ref 176)]) rfl rfl ?_
        refine w_p (pc1 := 24) (st1 := .int 0 :: _) rfl rfl ?_
        refine w_p (pc1 := 25) (al1 := [(3, .int 0), (2, .int 0), (1, .int (nI (k))), (0, .ref 176)]) rfl rfl ?_
        exact i215f (k := 0) hl (by omega) h24 (by omega) H2
      · skip
        refine w_p (pc1 := 3) rfl rfl ?_
        refine w_p (pc1 := 5) (st1 := .int 24 :: _) rfl rfl ?_
        refine w_f (a := 71) (b := 8) (bN_ge_f (a := k) (b := 24) (by omega) (by omega) (by omega)) rfl rfl ?_
        refine w_p (pc1 := 9) rfl rfl ?_
        refine w_m0 (pc1 := 12) rfl rfl (h_gC rfl rfl rfl rfl) rfl ?_
        refine w_p (pc1 := 13) rfl rfl ?_
        refine w_m0 (pc1 := 14) (st1 := .int 0 :: _) rfl rfl (n_ble (e := k) rfl rfl (by decide) rfl (by omega) (h2)) rfl ?_
        refine w_f (a := 21) (b := 17) rfl rfl rfl ?_
        refine w_p (pc1 := 18) (st1 := .int 1 :: _) rfl rfl ?_
        refine w_p (pc1 := 22) rfl rfl ?_
        refine w_p (pc1 := 23) (al1 := [(2, .int 1), (1, .int (nI (k))), (0, .ref 176)]) rfl rfl ?_
        refine w_p (pc1 := 24) (st1 := .int 0 :: _) rfl rfl ?_
        refine w_p (pc1 := 25) (al1 := [(3, .int 0), (2, .int 1), (1, .int (nI (k))), (0, .ref 176)]) rfl rfl ?_
        exact lp_215i (z := false) hl h114 hx (by omega) h24 H2 l [] rfl (by rw [h3]; rfl)
set_option maxRecDepth 100000 in
theorem m_215 {v : Int32} (H : TMo C b Tb l none) (hv : ruN Tb.2.2 = v) : Wd L xs d y_215 (0, [(0, .ref 176)], [], MH C t, 0) (Rt (some (.int v)) (MH C t) 0) nX := by
  subst hv
  refine w_p (pc1 := 1) (st1 := .int 0 :: _) rfl rfl ?_
  refine w_p (pc1 := 2) (al1 := [(1, .int 0), (0, .ref 176)]) rfl rfl ?_
  exact lp_215 H 24 0 (by omega)
set_option maxRecDepth 100000 in
theorem RUM_s {v : Int32} (H : RUM C q u) (hk : k = 114 ∨ k = 76) : RUM (sI C k j v) q u := by
  have e : ∀ x y, (84 ≤ x ∧ x ≤ 113) → (sI C k j v).1 x y = C.1 x y := fun x y hx => by rw [sI_1, if_neg (by omega)]
  obtain ⟨⟨a1, a2, a3, a4, a5, a6⟩, ⟨b1, b2, b3⟩, c1, c2⟩ := H
  exact ⟨⟨(e 84 q (by omega)).trans a1, (e 85 q (by omega)).trans a2, (e 86 q (by omega)).trans a3, (e 87 q (by omega)).trans a4, fun j x hx => (e 88 _ (by omega)).trans (a5 j x hx), fun j x hx => (e 89 _ (by omega)).trans (a6 j x hx)⟩, ⟨(e 90 q (by omega)).trans b1, (e 92 q (by omega)).trans b2, (e 93 q (by omega)).trans b3⟩, fun O hO => ⟨(e 113 q (by omega)).trans (c1 O hO).1, foM_o (c1 O hO).2.1 (fun j => e 106 j (by omega)) (fun _ => rfl), (e 94 q (by omega)).trans (c1 O hO).2.2⟩, fun h => (e 94 q (by omega)).trans (c2 h)⟩
set_option maxRecDepth 100000 in
theorem TMo_n (H : TMo C b Tb l none) (hr : ruN Tb.2.2 = nI r) (hr2 : r < 24) (hr3 : Tb.2.2 r = none) (e1 : ∀ k j, ¬ (k = 114 ∧ j = l.length) → ¬ (k = 76 ∧ j = 58) → ¬ ((84 ≤ k ∧ k ≤ 94 ∧ k ≠ 88 ∧ k ≠ 89) ∧ j = r) → C'.1 k j = C.1 k j) (e2 : C'.2 = C.2) (h58 : C'.1 76 58 = nI (l.length + 1)) (h114 : C'.1 114 l.length = nI r) (h91 : C'.1 91 r = 0) : TMo C' b Tb (l ++ [r]) (some r) := by
  obtain ⟨⟨a1, a2, a3, a4⟩, b1, c1, ⟨d1, d2, d3, d4⟩, g1, _, bo⟩ := H
  have hf : fPo r (sI (sI C 114 l.length (nI r)) 76 58 (nI (l.length + 1))) C' := by
    refine ⟨fun k j h1 h2 h3 h4 h5 h6 => ?_, fun k j _ _ _ => by rw [e2]; rfl, by rw [e2]; rfl⟩
    by_cases hA : k = 114 ∧ j = l.length
    · rw [hA.1, hA.2, h114, sI_1, if_neg (by omega), sI_1, if_pos ⟨rfl, rfl⟩]
    · by_cases hB : k = 76 ∧ j = 58
      · rw [hB.1, hB.2, h58, sI_1, if_pos ⟨rfl, rfl⟩]
      · rw [e1 k j hA hB h2, sI_1, if_neg hB, sI_1, if_neg hA]
  have hrl : r ∉ l ∧ C.1 83 r = 0 := by
    rcases g1 r hr2 (by intro e; cases e) with ⟨_, h2, h3⟩ | ⟨u, h1, _⟩
    · exact ⟨h3, h2⟩
    · rw [hr3] at h1
      cases h1
  have e3 : ∀ k j, k = 78 ∨ k = 80 ∨ k = 83 → C'.1 k j = C.1 k j := fun k j hk => e1 k j (by omega) (by omega) (by omega)
  refine ⟨⟨(e1 76 57 (by omega) (by omega) (by omega)).trans a1, a2, (e3 78 b (by omega)).trans a3, a4⟩, fun q hq hz => ?_, fun q hq hz => (e3 78 q (by omega)).trans (c1 q hq hz), ⟨?_, fun x hx => ?_, ?_, fun k x hx => ?_⟩, fun q hq hn => ?_, fun x hx => ?_, by rw [e1 76 48 (by omega) (by omega) (by omega), e1 76 49 (by omega) (by omega) (by omega)]; exact bo⟩
  · obtain ⟨h1, h2, h3, h4⟩ := b1 q hq hz
    exact ⟨fun h => (e3 78 q (by omega)).trans (h1 h), by rw [e2]; exact h2, TBM_o h3 (fun j => e3 80 j (by omega)) (fun j => by rw [e2]), fun c hc => by rw [e2]; exact h4 c hc⟩
  · rw [h58, List.length_append, List.length_singleton]
  · rcases List.mem_append.mp hx with h | h
    · have hxr : x ≠ r := fun z => hrl.1 (by rw [← z]; exact h)
      exact ⟨(d2 x h).1, (e1 91 x (by omega) (by omega) (by omega)).trans (d2 x h).2⟩
    · rw [List.mem_singleton.mp h]
      exact ⟨hr2, h91⟩
  · exact nd_s d3 (by simpa using hrl.1)
  · by_cases hk : k < l.length
    · rw [List.getElem?_append_left hk] at hx
      exact (e1 114 k (by omega) (by omega) (by omega)).trans (d4 k x hx)
    · have hk2 : k < (l ++ [r]).length := (List.getElem?_eq_some_iff.mp hx).1
      rw [List.length_append, List.length_singleton] at hk2
      have : k = l.length := by omega
      subst this
      rw [List.getElem?_append_right (Nat.le_refl _), Nat.sub_self] at hx
      cases hx
      exact h114
  · have hqr : q ≠ r := fun e => hn (by rw [e])
    rcases g1 q hq (by intro e; cases e) with ⟨h1, h2, h3⟩ | ⟨u, h1, h2, h3, h4⟩
    · refine Or.inl ⟨h1, (e3 83 q (by omega)).trans h2, fun h => ?_⟩
      rcases List.mem_append.mp h with h | h
      · exact h3 h
      · exact hqr (List.mem_singleton.mp h)
    · refine Or.inr ⟨u, h1, RUM_o hqr h3 (RUM_s (RUM_s h2 (Or.inl rfl)) (Or.inr rfl)) hf, h3, ?_⟩
      rw [e3 83 q (by omega)]
      rcases h4 with h4 | ⟨h4, h5⟩
      · exact Or.inl h4
      · exact Or.inr ⟨h4, List.mem_append_left _ h5⟩
  · cases hx
    exact ⟨hr2, hr3, (e3 83 r (by omega)).trans hrl.2, List.mem_append_right _ (List.mem_singleton.mpr rfl)⟩
/-! a new rule, as yet empty -/
def RU0 (C : co_T) (r : Nat) (kd tb : Int32) : Prop := C.1 84 r = kd ∧ C.1 85 r = tb ∧ C.1 86 r = -1 ∧ C.1 87 r = 0 ∧ C.1 90 r = 0 ∧ C.1 92 r = 0 ∧ C.1 93 r = 0 ∧ C.1 94 r = 0
set_option maxRecDepth 100000 in
theorem m_214f {z : Int32} (M : MS B n U V C0 C i nl) (H : TMo C b Tb l none) (hr : ruN Tb.2.2 = -1) : Wd L xs (d + 2) y_214 (0, [(0, .ref 176), (1, .int z)], [], MH C t, 0) (Rt (some (.int 0)) (MH (fl_ C 6 (C.1 76 5)) t) 0) nX := by
  refine w_p (pc1 := 1) rfl rfl ?_
  refine w_je (pc1 := 4) (vs := [.ref 176]) (rest := []) (st1 := [.int (-1)]) (m_215 (d := _) H hr) rfl rfl rfl (fun _ _ => rfl) rfl (by exact cl_v my_215 rfl rfl rfl (Nat.le_of_ble_eq_true rfl) rfl (MH_obj rfl rfl) rfl (by decide) rfl rfl) (by rfl) (Nat.le_of_ble_eq_true rfl) (Nat.le_of_ble_eq_true rfl) rfl (by rfl) ?_
  refine w_p (pc1 := 5) (al1 := [(2, .int (-1)), (0, .ref 176), (1, .int (z))]) rfl rfl ?_
  refine w_p (pc1 := 6) rfl rfl ?_
  refine w_p (pc1 := 7) (st1 := .int (-1) :: _) rfl rfl ?_
  refine w_f (a := 18) (b := 10) rfl rfl rfl ?_
  refine w_p (pc1 := 11) rfl rfl ?_
  refine w_p (pc1 := 13) (st1 := .int 6 :: _) rfl rfl ?_
  refine w_je (pc1 := 16) (vs := [.ref 176, .int 6]) (rest := []) (st1 := []) (m_200 (d := _) (sl := 0) (fun z => absurd M.2.1.2.1 z)) rfl rfl rfl (fun _ _ => rfl) rfl (by exact cl_v my_200 rfl rfl rfl (Nat.le_of_ble_eq_true rfl) rfl (MH_obj rfl rfl) rfl (by decide) rfl rfl) (by rfl) (Nat.le_of_ble_eq_true rfl) (Nat.le_of_ble_eq_true rfl) rfl (by rfl) ?_
  refine w_p (pc1 := 17) (st1 := .int 0 :: _) rfl rfl ?_
  refine w_r rfl rfl rfl (fun _ _ => rfl) cr_int ?_
  exact ⟨rfl, rfl, rfl⟩
set_option maxRecDepth 100000 in
theorem m_214 {z : Int32} (hU : U r) (M : MS B n U V C0 C i nl) (H : TMo C b Tb l none) (hr : ruN Tb.2.2 = nI r) (hr2 : r < 24) (hr3 : Tb.2.2 r = none) : Wd L xs (d + 2) y_214 (0, [(0, .ref 176), (1, .int z)], [], MH C t, 0) (fun v h m => some (.int (nI r)) = v ∧ (∃ C', (MS B n U V C0 C' i nl ∧ TMo C' b Tb (l ++ [r]) (some r) ∧ RU0 C' r z (nI b) ∧ (∀ j, 40 ≤ j → j ≤ 49 → C'.1 76 j = C.1 76 j)) ∧ MH C' t = h) ∧ 0 = m) nX := by
  have h24 : l.length < 25 := Nat.lt_succ_of_le (TMo_l H)
  refine w_p (pc1 := 1) rfl rfl ?_
  refine w_je (pc1 := 4) (vs := [.ref 176]) (rest := []) (st1 := [.int (nI (r))]) (m_215 (d := _) H hr) rfl rfl rfl (fun _ _ => rfl) rfl (by exact cl_v my_215 rfl rfl rfl (Nat.le_of_ble_eq_true rfl) rfl (MH_obj rfl rfl) rfl (by decide) rfl rfl) (by rfl) (Nat.le_of_ble_eq_true rfl) (Nat.le_of_ble_eq_true rfl) rfl (by rfl) ?_
  refine w_p (pc1 := 5) (al1 := [(2, .int (nI (r))), (0, .ref 176), (1, .int (z))]) rfl rfl ?_
  refine w_p (pc1 := 6) rfl rfl ?_
  refine w_p (pc1 := 7) (st1 := .int (-1) :: _) rfl rfl ?_
  refine w_t (a := 18) (b := 10) (cb_ne_t (by exact nK_m1 (by omega))) rfl rfl ?_
  refine w_p (pc1 := 19) rfl rfl ?_
  refine w_m0 (pc1 := 22) rfl rfl (h_gC rfl rfl rfl rfl) rfl ?_
  refine w_p (pc1 := 23) rfl rfl ?_
  refine w_m0 (pc1 := 26) (st1 := .int (nI (l.length)) :: _) rfl rfl (h_gIe (j := 58) rfl rfl rfl rfl rfl (H.2.2.2.1.1)) rfl ?_
  refine w_p (pc1 := 27) rfl rfl ?_
  refine w_m0 (pc1 := 28) rfl rfl (n_is (e := l.length) rfl rfl rfl (by omega)) rfl ?_
  refine w_p (pc1 := 29) rfl rfl ?_
  refine w_p (pc1 := 30) rfl rfl ?_
  refine w_m0 (pc1 := 33) (st1 := .int (nI (l.length)) :: _) rfl rfl (h_gIe (j := 58) rfl rfl rfl rfl rfl (H.2.2.2.1.1)) rfl ?_
  refine w_p (pc1 := 34) (st1 := .int 1 :: _) rfl rfl ?_
  refine w_iadd (pc1 := 35) (u := nI (l.length)) (v := nI (1)) (z := nI (l.length + 1)) rfl (nK_add) rfl ?_
  refine w_m0 (pc1 := 38) rfl rfl (h_pI (j := 58) rfl rfl rfl rfl rfl rfl rfl ⟨rfl, rfl⟩ rfl) rfl ?_
  refine w_p (pc1 := 39) rfl rfl ?_
  refine w_m0 (pc1 := 42) rfl rfl (h_gC rfl rfl rfl rfl) rfl ?_
  refine w_p (pc1 := 43) rfl rfl ?_
  refine w_p (pc1 := 44) rfl rfl ?_
  refine w_m0 (pc1 := 45) rfl rfl (n_is (e := r) rfl rfl rfl (by omega)) rfl ?_
  refine w_p (pc1 := 46) rfl rfl ?_
  refine w_m0 (pc1 := 49) rfl rfl (h_gC rfl rfl rfl rfl) rfl ?_
  refine w_p (pc1 := 50) rfl rfl ?_
  refine w_p (pc1 := 51) rfl rfl ?_
  refine w_m0 (pc1 := 54) (st1 := .int (nI (b)) :: _) rfl rfl (h_gIe (j := 57) rfl rfl rfl rfl rfl (by rw [sI_1, if_neg (by omega), sI_1, if_neg (by omega), sI_1, if_neg (by omega)]; exact H.1.1)) rfl ?_
  refine w_m0 (pc1 := 55) rfl rfl (n_is (e := r) rfl rfl rfl (by omega)) rfl ?_
  refine w_p (pc1 := 56) rfl rfl ?_
  refine w_m0 (pc1 := 59) rfl rfl (h_gC rfl rfl rfl rfl) rfl ?_
  refine w_p (pc1 := 60) rfl rfl ?_
  refine w_p (pc1 := 61) (st1 := .int (-1) :: _) rfl rfl ?_
  refine w_m0 (pc1 := 62) rfl rfl (n_is (e := r) rfl rfl rfl (by omega)) rfl ?_
  refine w_p (pc1 := 63) rfl rfl ?_
  refine w_m0 (pc1 := 66) rfl rfl (h_gC rfl rfl rfl rfl) rfl ?_
  refine w_p (pc1 := 67) rfl rfl ?_
  refine w_p (pc1 := 68) (st1 := .int 0 :: _) rfl rfl ?_
  refine w_m0 (pc1 := 69) rfl rfl (n_is (e := r) rfl rfl rfl (by omega)) rfl ?_
  refine w_p (pc1 := 70) rfl rfl ?_
  refine w_m0 (pc1 := 73) rfl rfl (h_gC rfl rfl rfl rfl) rfl ?_
  refine w_p (pc1 := 74) rfl rfl ?_
  refine w_p (pc1 := 75) (st1 := .int 0 :: _) rfl rfl ?_
  refine w_m0 (pc1 := 76) rfl rfl (n_bs (e := r) rfl rfl (by decide) rfl (by omega)) rfl ?_
  refine w_p (pc1 := 77) rfl rfl ?_
  refine w_m0 (pc1 := 80) rfl rfl (h_gC rfl rfl rfl rfl) rfl ?_
  refine w_p (pc1 := 81) rfl rfl ?_
  refine w_p (pc1 := 82) (st1 := .int 0 :: _) rfl rfl ?_
  refine w_m0 (pc1 := 83) rfl rfl (n_bs (e := r) rfl rfl (by decide) rfl (by omega)) rfl ?_
  refine w_p (pc1 := 84) rfl rfl ?_
  refine w_m0 (pc1 := 87) rfl rfl (h_gC rfl rfl rfl rfl) rfl ?_
  refine w_p (pc1 := 88) rfl rfl ?_
  refine w_p (pc1 := 89) (st1 := .int 0 :: _) rfl rfl ?_
  refine w_m0 (pc1 := 90) rfl rfl (n_is (e := r) rfl rfl rfl (by omega)) rfl ?_
  refine w_p (pc1 := 91) rfl rfl ?_
  refine w_m0 (pc1 := 94) rfl rfl (h_gC rfl rfl rfl rfl) rfl ?_
  refine w_p (pc1 := 95) rfl rfl ?_
  refine w_p (pc1 := 96) (st1 := .int 0 :: _) rfl rfl ?_
  refine w_m0 (pc1 := 97) rfl rfl (n_is (e := r) rfl rfl rfl (by omega)) rfl ?_
  refine w_p (pc1 := 98) rfl rfl ?_
  refine w_m0 (pc1 := 101) rfl rfl (h_gC rfl rfl rfl rfl) rfl ?_
  refine w_p (pc1 := 102) rfl rfl ?_
  refine w_p (pc1 := 103) (st1 := .int 0 :: _) rfl rfl ?_
  refine w_m0 (pc1 := 104) rfl rfl (n_is (e := r) rfl rfl rfl (by omega)) rfl ?_
  refine w_p (pc1 := 105) rfl rfl ?_
  refine w_r rfl rfl rfl (fun _ _ => rfl) cr_int ?_
  refine ⟨rfl, ⟨_, ⟨MS_I (MS_I (MS_I (MS_I (MS_I (MS_I (MS_I (MS_I (MS_I (MS_I (MS_I M (Or.inr (Or.inl (Or.inr (Or.inl rfl)))) (by omega)) (sx_76 (by omega)) (by omega)) (sx_r hU (by omega)) (by omega)) (sx_r hU (by omega)) (by omega)) (sx_r hU (by omega)) (by omega)) (sx_r hU (by omega)) (by omega)) (sx_r hU (by omega)) (by omega)) (sx_r hU (by omega)) (by omega)) (sx_r hU (by omega)) (by omega)) (sx_r hU (by omega)) (by omega)) (sx_r hU (by omega)) (by omega), TMo_n H hr hr2 hr3 (fun k j h1 h2 h3 => ?_) rfl ?_ ?_ (by rw [sI_1, if_neg (by omega), sI_1, if_neg (by omega), sI_1, if_neg (by omega), sI_1, if_pos ⟨rfl, rfl⟩]; rfl), ⟨?_, ?_, ?_, ?_, ?_, ?_, ?_, ?_⟩, fun j h1 h2 => ?_⟩, rfl⟩, rfl⟩
  · rw [sI_1, if_neg (by omega), sI_1, if_neg (by omega), sI_1, if_neg (by omega), sI_1, if_neg (by omega), sI_1, if_neg (by omega), sI_1, if_neg (by omega), sI_1, if_neg (by omega), sI_1, if_neg (by omega), sI_1, if_neg (by omega), sI_1, if_neg (by omega), sI_1, if_neg (by omega)]
  · rw [sI_1, if_neg (by omega), sI_1, if_neg (by omega), sI_1, if_neg (by omega), sI_1, if_neg (by omega), sI_1, if_neg (by omega), sI_1, if_neg (by omega), sI_1, if_neg (by omega), sI_1, if_neg (by omega), sI_1, if_neg (by omega), sI_1, if_pos ⟨rfl, rfl⟩]
  · rw [sI_1, if_neg (by omega), sI_1, if_neg (by omega), sI_1, if_neg (by omega), sI_1, if_neg (by omega), sI_1, if_neg (by omega), sI_1, if_neg (by omega), sI_1, if_neg (by omega), sI_1, if_neg (by omega), sI_1, if_neg (by omega), sI_1, if_neg (by omega), sI_1, if_pos ⟨rfl, rfl⟩]
  · rw [sI_1, if_neg (by omega), sI_1, if_neg (by omega), sI_1, if_neg (by omega), sI_1, if_neg (by omega), sI_1, if_neg (by omega), sI_1, if_neg (by omega), sI_1, if_neg (by omega), sI_1, if_neg (by omega), sI_1, if_pos ⟨rfl, rfl⟩]
  · rw [sI_1, if_neg (by omega), sI_1, if_neg (by omega), sI_1, if_neg (by omega), sI_1, if_neg (by omega), sI_1, if_neg (by omega), sI_1, if_neg (by omega), sI_1, if_neg (by omega), sI_1, if_pos ⟨rfl, rfl⟩]
  · rw [sI_1, if_neg (by omega), sI_1, if_neg (by omega), sI_1, if_neg (by omega), sI_1, if_neg (by omega), sI_1, if_neg (by omega), sI_1, if_neg (by omega), sI_1, if_pos ⟨rfl, rfl⟩]
  · rw [sI_1, if_neg (by omega), sI_1, if_neg (by omega), sI_1, if_neg (by omega), sI_1, if_neg (by omega), sI_1, if_neg (by omega), sI_1, if_pos ⟨rfl, rfl⟩]
  · rw [sI_1, if_neg (by omega), sI_1, if_neg (by omega), sI_1, if_neg (by omega), sI_1, if_neg (by omega), sI_1, if_pos ⟨rfl, rfl⟩]
    rfl
  · rw [sI_1, if_neg (by omega), sI_1, if_neg (by omega), sI_1, if_pos ⟨rfl, rfl⟩]
  · rw [sI_1, if_neg (by omega), sI_1, if_pos ⟨rfl, rfl⟩]
  · rw [sI_1, if_pos ⟨rfl, rfl⟩]
  · rw [sI_1, if_neg (by omega), sI_1, if_neg (by omega), sI_1, if_neg (by omega), sI_1, if_neg (by omega), sI_1, if_neg (by omega), sI_1, if_neg (by omega), sI_1, if_neg (by omega), sI_1, if_neg (by omega), sI_1, if_neg (by omega), sI_1, if_neg (by omega), sI_1, if_neg (by omega)]
end MTB
