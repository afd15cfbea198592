
/-! THE OTHER SIDE'S ENGINE: the sums of an insert, of an update -/
set_option maxRecDepth 100000 in
theorem eqO_w {q : op_T} {w : Int32} {v : Int64} (h : eqO q w v) : w ≠ 13 ∧ w ≠ 14 ∧ w ≠ 15 := by
  unfold eqO at h
  rcases h with h | h | h | h | h | h | h | h | h | h | h | h
  · rw [h.2.1]; decide
  · rw [h.2]; decide
  · rw [h.2.1]; decide
  · rw [h.2.1]; decide
  · rw [h.2.1]; decide
  · rw [h.2]; decide
  · rw [h.2]; decide
  · rw [h.2]; decide
  · rw [h.2]; decide
  · rw [h.2]; decide
  · rw [h.2]; decide
  · rw [h.1]; decide
def frS (C C' : co_T) : Prop := (∀ k j, ¬ (k = 76 ∧ (j = 73 ∨ j = 74)) → C'.1 k j = C.1 k j) ∧ (∀ k j, k ≠ 124 → k ≠ 138 → C'.2.1 k j = C.2.1 k j) ∧ C'.2.2 = C.2.2
set_option maxRecDepth 100000 in
theorem frS_r {C : co_T} : frS C C := ⟨fun _ _ _ => rfl, fun _ _ _ _ => rfl, rfl⟩
set_option maxRecDepth 100000 in
theorem frS_t {C1 C2 C3 : co_T} (h : frS C1 C2) (g : frS C2 C3) : frS C1 C3 := ⟨fun k j a => (g.1 k j a).trans (h.1 k j a), fun k j a b => (g.2.1 k j a b).trans (h.2.1 k j a b), g.2.2.trans h.2.2⟩
set_option maxRecDepth 100000 in
theorem frS_W {C C' : co_T} (h : frW C C') : frS C C' := ⟨h.1, fun k j a _ => h.2.1 k j a, h.2.2⟩
set_option maxRecDepth 100000 in
theorem frS_J {C : co_T} {j : Nat} {x : Int64} : frS C (sJ C 138 j x) := ⟨fun k i a => by rw [sJ_1], fun k i a b => by rw [sJ_2, if_neg (by omega)], rfl⟩
set_option maxRecDepth 100000 in
theorem frS_I {C : co_T} {x : Int32} : frS C (sI C 76 73 x) := frS_W (frW_I (Or.inl rfl))
set_option maxRecDepth 100000 in
theorem frS_Q {f : Nat} {C C' : co_T} (h : frS C C') : frQ f C C' := ⟨fun k j _ b _ _ => h.1 k j (by omega), fun k j a _ _ => h.2.1 k j (by omega) (by omega), h.2.2⟩
set_option maxRecDepth 100000 in
theorem frS_V {C C' : co_T} (h : frS C C') : frV C C' := ⟨fun j => h.1 115 j (by omega), fun j => h.1 117 j (by omega), fun j => h.1 118 j (by omega), fun j => h.2.1 116 j (by omega) (by omega)⟩
set_option maxRecDepth 100000 in
theorem envM_S {C C' : co_T} {row f w1 w2 w3 : Nat} {R N O : rw_F} (h : envM C row f w1 w2 w3 R N O) (g : frS C C') : envM C' row f w1 w2 w3 R N O := ⟨⟨h.1.1, fun c hc => (g.2.1 116 _ (by decide) (by decide)).trans (h.1.2 c hc)⟩, h.2.1, fun c hc => (g.2.1 136 _ (by decide) (by decide)).trans (h.2.2.1 c hc), fun c hc => (g.2.1 137 _ (by decide) (by decide)).trans (h.2.2.2 c hc)⟩
set_option maxRecDepth 100000 in
theorem itM_S {p a : Nat} {C C' : co_T} {O : List it_T} (h : frS C C') (F : itM C p a O) : itM C' p a O := itM_Q (frS_Q (f := 0) h) F
set_option maxRecDepth 100000 in
theorem itM_a {C : co_T} {p s : Nat} {l m : List it_T} (h : itM C p s (l ++ m)) : itM C p s l ∧ itM C p (s + l.length) m := by
  refine ⟨fun j x hj => h j x ?_, fun j x hj => ?_⟩
  · rw [List.getElem?_append_left (get_lt hj)]
    exact hj
  · have := h (l.length + j) x (by rw [List.getElem?_append_right (by omega), Nat.add_sub_cancel_left]; exact hj)
    rw [show s + (l.length + j) = s + l.length + j by omega] at this
    exact this
set_option maxRecDepth 100000 in
theorem itM_c {C : co_T} {p s : Nat} {x : it_T} {m : List it_T} (h : itM C p s (x :: m)) : itM C p s [x] ∧ itM C p (s + 1) m := itM_a (l := [x]) h
section ME3
variable {L : Nat} {xs : Nat → Int32} {t : ab_H} {d sl b f p n w1 w2 w3 row : Nat} {S : st_T} {R N O : rw_F} {P : Option Value → ab_H → Nat → Prop} {X : Nat → ab_H → Nat → Prop}
set_option maxRecDepth 100000 in
theorem lp_259i (hp : p ≤ 40) (hn6 : n ≤ 619) : ∀ (l : List op_T) (k : Nat) (C : co_T) (st : List tv_T) (z : Bool), k + l.length ≤ n → itM C p k (l.map Sum.inl) → envM C (0) f w1 w2 w3 R N O → (∃ b, t_l w1 w2 w3 l (st.map tyv) = some [b]) → PIL C st → st.length ≤ k → C.1 76 74 = ck z → C.1 113 p = nI n →
    (∀ C' st', f_l true R N O l st = some st' → PIL C' st' → C'.1 76 74 = ck (z || (f_l false R N O l st).isNone) → frW C C' → Wd L xs (d + 4) y_259 (8, [(4, .int (nI (k + l.length))), (0, .ref 176), (1, .int (nI (p))), (2, .int (nI (b))), (3, .int (nI (f)))], [], MH C' t, sl) P X) → Wd L xs (d + 4) y_259 (8, [(4, .int (nI (k))), (0, .ref 176), (1, .int (nI (p))), (2, .int (nI (b))), (3, .int (nI (f)))], [], MH C t, sl) P X
  | [], k, C, st, z, hk, hq, he, ht, hS, hl, hz, hh, H => H C st rfl hS (by rw [hz]; cases z <;> rfl) frW_r
  | q :: l, k, C, st, z, hk, hq, he, ht, hS, hl, hz, hh, H => by
    have hk : k + (l.length + 1) ≤ n := hk
    obtain ⟨b0, hb⟩ := ht
    have hb : (t_1 w1 w2 w3 q (st.map tyv)).bind (t_l w1 w2 w3 l) = some [b0] := hb
    cases hT : t_1 w1 w2 w3 q (st.map tyv) with
    | none => rw [hT] at hb; cases hb
    | some T1 =>
    rw [hT] at hb
    have hb : t_l w1 w2 w3 l T1 = some [b0] := hb
    obtain ⟨hq0, hq1⟩ := itM_c hq
    have h0 : eqO q (C.1 106 (620 * p + k)) (C.2.1 107 (620 * p + k)) := hq0 0 _ rfl
    refine w_p (pc1 := 10) rfl rfl ?_
    refine w_p (pc1 := 11) rfl rfl ?_
    refine w_m0 (pc1 := 14) rfl rfl (h_gC rfl rfl rfl rfl) rfl ?_
    refine w_p (pc1 := 15) rfl rfl ?_
    refine w_m0 (pc1 := 16) (st1 := .int (nI (n)) :: _) rfl rfl (n_ile (e := p) rfl rfl rfl (by omega) (hh)) rfl ?_
    refine w_f (a := 138) (b := 19) (bN_ge_f (a := k) (b := n) (by omega) (by omega) (by omega)) rfl rfl ?_
    refine w_p (pc1 := 20) rfl rfl ?_
    refine w_m0 (pc1 := 23) rfl rfl (h_gC rfl rfl rfl rfl) rfl ?_
    refine w_p (pc1 := 26) (st1 := .int 620 :: _) rfl rfl ?_
    refine w_p (pc1 := 27) rfl rfl ?_
    refine w_imul (pc1 := 28) (u := nI (620)) (v := nI (p)) (z := nI (620 * p)) rfl (nK_mul) rfl ?_
    refine w_p (pc1 := 30) rfl rfl ?_
    refine w_iadd (pc1 := 31) (u := nI (620 * p)) (v := nI (k)) (z := nI (620 * p + k)) rfl (nK_add) rfl ?_
    refine w_m0 (pc1 := 32) rfl rfl (n_ll (e := 620 * p + k) rfl rfl rfl (by omega)) rfl ?_
    refine w_p (pc1 := 33) rfl rfl ?_
    refine w_p (pc1 := 35) (al1 := [(5, _), (4, .int (nI (k))), (0, .ref 176), (1, .int (nI (p))), (2, .int (nI (b))), (3, .int (nI (f)))]) rfl rfl ?_
    refine w_p (pc1 := 36) rfl rfl ?_
    refine w_m0 (pc1 := 39) rfl rfl (h_gC rfl rfl rfl rfl) rfl ?_
    refine w_p (pc1 := 42) (st1 := .int 620 :: _) rfl rfl ?_
    refine w_p (pc1 := 43) rfl rfl ?_
    refine w_imul (pc1 := 44) (u := nI (620)) (v := nI (p)) (z := nI (620 * p)) rfl (nK_mul) rfl ?_
    refine w_p (pc1 := 46) rfl rfl ?_
    refine w_iadd (pc1 := 47) (u := nI (620 * p)) (v := nI (k)) (z := nI (620 * p + k)) rfl (nK_add) rfl ?_
    refine w_m0 (pc1 := 48) rfl rfl (n_il (e := 620 * p + k) rfl rfl rfl (by omega)) rfl ?_
    refine w_p (pc1 := 50) (st1 := .int 14 :: _) rfl rfl ?_
    refine w_t (a := 75) (b := 53) (cb_ne_t (by exact (eqO_w h0).2.1)) rfl rfl ?_
    refine w_p (pc1 := 76) rfl rfl ?_
    refine w_m0 (pc1 := 79) rfl rfl (h_gC rfl rfl rfl rfl) rfl ?_
    refine w_p (pc1 := 82) (st1 := .int 620 :: _) rfl rfl ?_
    refine w_p (pc1 := 83) rfl rfl ?_
    refine w_imul (pc1 := 84) (u := nI (620)) (v := nI (p)) (z := nI (620 * p)) rfl (nK_mul) rfl ?_
    refine w_p (pc1 := 86) rfl rfl ?_
    refine w_iadd (pc1 := 87) (u := nI (620 * p)) (v := nI (k)) (z := nI (620 * p + k)) rfl (nK_add) rfl ?_
    refine w_m0 (pc1 := 88) rfl rfl (n_il (e := 620 * p + k) rfl rfl rfl (by omega)) rfl ?_
    refine w_p (pc1 := 90) (st1 := .int 13 :: _) rfl rfl ?_
    refine w_t (a := 122) (b := 93) (cb_ne_t (by exact (eqO_w h0).1)) rfl rfl ?_
    refine w_p (pc1 := 123) rfl rfl ?_
    refine w_p (pc1 := 124) rfl rfl ?_
    refine w_p (pc1 := 126) rfl rfl ?_
    refine w_p (pc1 := 127) (st1 := .int 0 :: _) rfl rfl ?_
    refine w_p (pc1 := 128) rfl rfl ?_
    refine w_p (pc1 := 129) (st1 := .int 0 :: _) rfl rfl ?_
    refine w_ji (pc1 := 132) (vs := [.ref 176, .int (nI (p)), .int (nI (k)), .int 0, .int (nI (f)), .int 0]) (rest := []) (m_252 (d := d + 1) (sl := 0) (g := false) (z := z) he h0 hp (by omega) hT hS (by omega) hz) rfl rfl rfl (fun _ _ => rfl) rfl (by exact cl_v my_252 rfl rfl rfl (Nat.le_of_ble_eq_true rfl) rfl (MH_obj rfl rfl) rfl (by decide) rfl rfl) (by rfl) (Nat.le_of_ble_eq_true rfl) (Nat.le_of_ble_eq_true rfl) rfl (fun v h m hq1 => ?_) (fun _ _ _ e => e.elim)
    obtain ⟨rfl, ⟨C1, ⟨st1, f1, f2, f3, f4, f5⟩, rfl⟩, rfl⟩ := hq1
    refine w_iinc (pc1 := 135) (u := nI (k)) (z := nI (k + 1)) (al1 := [(4, .int (nI (k + 1))), (5, _), (0, .ref 176), (1, .int (nI (p))), (2, .int (nI (b))), (3, .int (nI (f)))]) rfl rfl rfl nK_1 rfl rfl ?_
    refine w_p (pc1 := 8) rfl rfl ?_
    refine Wd_al (al := [(4, .int (nI (k + 1))), (0, .ref 176), (1, .int (nI (p))), (2, .int (nI (b))), (3, .int (nI (f)))]) (sba_p [0, 2, 3, 4, 5] rfl rfl) ?_
    refine lp_259i hp hn6 l (k + 1) C1 st1 (z || (f_1 false R N O q st).isNone) (by omega) (itM_S (frS_W f5) hq1) (envM_f he f5) ⟨b0, by rw [f2]; exact hb⟩ f3 ?_ f4 ((f5.1 113 p (by omega)).trans hh) (fun C2 st2 g1 g2 g3 g4 => ?_)
    · have h3 := congrArg List.length f2
      have h4 := t_1len hT
      rw [List.length_map] at h3 h4
      omega
    · have := H C2 st2 (by show (f_1 true R N O q st).bind (f_l true R N O l) = _; rw [f1]; exact g1) g2 (by rw [g3]; exact congrArg ck (fl_or f1)) (frW_t f5 g4)
      rw [show k + (q :: l).length = k + 1 + l.length by rw [List.length_cons]; omega] at this
      exact this
set_option maxRecDepth 100000 in
theorem lp_259o {C0 : co_T} {V0 : Option rw_F} {m : Nat} {df : Nat → Option Int32} (hp : p ≤ 40) (hn6 : n ≤ 619) (hb : b < 6) (hm : m ≤ 6) (hdf : ∀ c, c < m → C0.2.1 82 (b * 6 + c) = e_V (df c)) (hh0 : C0.1 113 p = nI n) (he0 : envM C0 0 f 0 w2 w3 noF N O)
    (H1 : ∀ C' g, V0 = some g → (∀ c, c < m → C'.2.1 138 c = e_V (g c)) → C'.1 76 74 = 0 → frS C0 C' → Wd L xs (d + 4) y_259 (138, [(0, .ref 176), (1, .int (nI (p))), (2, .int (nI (b))), (3, .int (nI (f)))], [], MH C' t, sl) P X)
    (H2 : ∀ C', V0 = none → C'.1 76 74 = 1 → frS C0 C' → Wd L xs (d + 4) y_259 (138, [(0, .ref 176), (1, .int (nI (p))), (2, .int (nI (b))), (3, .int (nI (f)))], [], MH C' t, sl) P X) : ∀ (ss : List (Option (List op_T))) (i k : Nat) (C : co_T) (z : Bool) (g : rw_F), k + (pIt i ss).length = n → i + ss.length = m → itM C p k (pIt i ss) → (∀ s, s ∈ ss → okS 0 w2 w3 s) → PIL C [] → C.1 76 74 = ck z → frS C0 C → (z = false → (∀ c, c < i → C.2.1 138 c = e_V (g c)) ∧ insV df N O g i ss = V0) → (z = true → V0 = none) → Wd L xs (d + 4) y_259 (8, [(4, .int (nI (k))), (0, .ref 176), (1, .int (nI (p))), (2, .int (nI (b))), (3, .int (nI (f)))], [], MH C t, sl) P X
  | [], i, k, C, z, g, hk, hi, hq, ho, hS, hz, hf, hz0, hz1 => by
    have hk : k = n := hk
    have hi : i = m := hi
    subst hi
    have hh : C.1 113 p = nI n := (hf.1 113 p (by omega)).trans hh0
    have H : Wd L xs (d + 4) y_259 (138, [(0, .ref 176), (1, .int (nI (p))), (2, .int (nI (b))), (3, .int (nI (f)))], [], MH C t, sl) P X := by
      cases z with
      | false =>
        obtain ⟨h1, h2⟩ := hz0 rfl
        exact H1 C g h2.symm h1 hz hf
      | true => exact H2 C (hz1 rfl) hz hf
    refine w_p (pc1 := 10) rfl rfl ?_
    refine w_p (pc1 := 11) rfl rfl ?_
    refine w_m0 (pc1 := 14) rfl rfl (h_gC rfl rfl rfl rfl) rfl ?_
    refine w_p (pc1 := 15) rfl rfl ?_
    refine w_m0 (pc1 := 16) (st1 := .int (nI (n)) :: _) rfl rfl (n_ile (e := p) rfl rfl rfl (by omega) (hh)) rfl ?_
    refine w_t (a := 138) (b := 19) (bN_ge_t (a := k) (b := n) (by omega) (by omega) (by omega)) rfl rfl ?_
    refine Wd_al (al := [(0, .ref 176), (1, .int (nI (p))), (2, .int (nI (b))), (3, .int (nI (f)))]) (sba_p [1, 2, 3, 4] rfl rfl) ?_
    exact H
  | none :: ss, i, k, C, z, g, hk, hi, hq, ho, hS, hz, hf, hz0, hz1 => by
    have hk : k + ((pIt (i + 1) ss).length + 1) = n := hk
    have hi : i + (ss.length + 1) = m := hi
    have hh : C.1 113 p = nI n := (hf.1 113 p (by omega)).trans hh0
    obtain ⟨q0, q1⟩ := itM_c hq
    obtain ⟨w1, w2⟩ : C.1 106 (620 * p + k) = 14 ∧ C.2.1 107 (620 * p + k) = (nI i).toInt64 := q0 0 _ rfl
    have hd : C.2.1 82 (6 * b + i) = e_V (df i) := by rw [hf.2.1 82 _ (by decide) (by decide), show 6 * b + i = b * 6 + i by omega]; exact hdf i (by omega)
    refine w_p (pc1 := 10) rfl rfl ?_
    refine w_p (pc1 := 11) rfl rfl ?_
    refine w_m0 (pc1 := 14) rfl rfl (h_gC rfl rfl rfl rfl) rfl ?_
    refine w_p (pc1 := 15) rfl rfl ?_
    refine w_m0 (pc1 := 16) (st1 := .int (nI (n)) :: _) rfl rfl (n_ile (e := p) rfl rfl rfl (by omega) (hh)) rfl ?_
    refine w_f (a := 138) (b := 19) (bN_ge_f (a := k) (b := n) (by omega) (by omega) (by omega)) rfl rfl ?_
    refine w_p (pc1 := 20) rfl rfl ?_
    refine w_m0 (pc1 := 23) rfl rfl (h_gC rfl rfl rfl rfl) rfl ?_
    refine w_p (pc1 := 26) (st1 := .int 620 :: _) rfl rfl ?_
    refine w_p (pc1 := 27) rfl rfl ?_
    refine w_imul (pc1 := 28) (u := nI (620)) (v := nI (p)) (z := nI (620 * p)) rfl (nK_mul) rfl ?_
    refine w_p (pc1 := 30) rfl rfl ?_
    refine w_iadd (pc1 := 31) (u := nI (620 * p)) (v := nI (k)) (z := nI (620 * p + k)) rfl (nK_add) rfl ?_
    refine w_m0 (pc1 := 32) (st1 := .long ((nI i).toInt64) :: _) rfl rfl (n_lle (e := 620 * p + k) rfl rfl rfl (by omega) (w2)) rfl ?_
    refine w_l2i (pc1 := 33) (z := nI (i)) rfl (i6432 _) rfl ?_
    refine w_p (pc1 := 35) (al1 := [(5, .int (nI (i))), (4, .int (nI (k))), (0, .ref 176), (1, .int (nI (p))), (2, .int (nI (b))), (3, .int (nI (f)))]) rfl rfl ?_
    refine w_p (pc1 := 36) rfl rfl ?_
    refine w_m0 (pc1 := 39) rfl rfl (h_gC rfl rfl rfl rfl) rfl ?_
    refine w_p (pc1 := 42) (st1 := .int 620 :: _) rfl rfl ?_
    refine w_p (pc1 := 43) rfl rfl ?_
    refine w_imul (pc1 := 44) (u := nI (620)) (v := nI (p)) (z := nI (620 * p)) rfl (nK_mul) rfl ?_
    refine w_p (pc1 := 46) rfl rfl ?_
    refine w_iadd (pc1 := 47) (u := nI (620 * p)) (v := nI (k)) (z := nI (620 * p + k)) rfl (nK_add) rfl ?_
    refine w_m0 (pc1 := 48) (st1 := .int 14 :: _) rfl rfl (n_ile (e := 620 * p + k) rfl rfl rfl (by omega) (w1)) rfl ?_
    refine w_p (pc1 := 50) (st1 := .int 14 :: _) rfl rfl ?_
    refine w_f (a := 75) (b := 53) rfl rfl rfl ?_
    refine w_p (pc1 := 54) rfl rfl ?_
    refine w_m0 (pc1 := 57) rfl rfl (h_gC rfl rfl rfl rfl) rfl ?_
    refine w_p (pc1 := 59) rfl rfl ?_
    refine w_p (pc1 := 60) rfl rfl ?_
    refine w_m0 (pc1 := 63) rfl rfl (h_gC rfl rfl rfl rfl) rfl ?_
    refine w_p (pc1 := 65) (st1 := .int 6 :: _) rfl rfl ?_
    refine w_p (pc1 := 66) rfl rfl ?_
    refine w_imul (pc1 := 67) (u := nI (6)) (v := nI (b)) (z := nI (6 * b)) rfl (nK_mul) rfl ?_
    refine w_p (pc1 := 69) rfl rfl ?_
    refine w_iadd (pc1 := 70) (u := nI (6 * b)) (v := nI (i)) (z := nI (6 * b + i)) rfl (nK_add) rfl ?_
    refine w_m0 (pc1 := 71) (st1 := .long (e_V (df i)) :: _) rfl rfl (n_lle (e := 6 * b + i) rfl rfl rfl (by omega) (hd)) rfl ?_
    refine w_m0 (pc1 := 72) rfl rfl (n_ls (e := i) rfl rfl rfl (by omega)) rfl ?_
    refine w_p (pc1 := 132) rfl rfl ?_
    refine w_iinc (pc1 := 135) (u := nI (k)) (z := nI (k + 1)) (al1 := [(4, .int (nI (k + 1))), (5, .int (nI (i))), (0, .ref 176), (1, .int (nI (p))), (2, .int (nI (b))), (3, .int (nI (f)))]) rfl rfl rfl nK_1 rfl rfl ?_
    refine w_p (pc1 := 8) rfl rfl ?_
    refine Wd_al (al := [(4, .int (nI (k + 1))), (0, .ref 176), (1, .int (nI (p))), (2, .int (nI (b))), (3, .int (nI (f)))]) (sba_p [0, 2, 3, 4, 5] rfl rfl) ?_
    have fs : frS C (sJ C 138 i (e_V (df i))) := frS_J
    refine lp_259o hp hn6 hb hm hdf hh0 he0 H1 H2 ss (i + 1) (k + 1) _ z (upF g i (df i)) (by omega) (by omega) (itM_S fs q1) (fun s hs => ho s (List.mem_cons_of_mem _ hs)) hS hz (frS_t hf fs) (fun e => ⟨fun c hc => ?_, (hz0 e).2⟩) hz1
    rw [sJ_2]
    unfold upF
    by_cases e1 : c = i
    · rw [if_pos ⟨rfl, e1⟩, if_pos e1]
    · rw [if_neg (by omega), if_neg e1]
      exact (hz0 e).1 c (by omega)
  | some l :: ss, i, k, C, z, g, hk, hi, hq, ho, hS, hz, hf, hz0, hz1 => by
    have ep : pIt i (some l :: ss) = l.map Sum.inl ++ (.inr (13, i) :: pIt (i + 1) ss) := rfl
    rw [ep, List.length_append, List.length_map, List.length_cons] at hk
    rw [ep] at hq
    have hi : i + (ss.length + 1) = m := hi
    have hh : C.1 113 p = nI n := (hf.1 113 p (by omega)).trans hh0
    obtain ⟨q0, q1⟩ := itM_a hq
    rw [List.length_map] at q1
    obtain ⟨q2, q3⟩ := itM_c q1
    have hok := ho _ (List.mem_cons_self ..)
    refine lp_259i hp hn6 l k C [] z (by omega) q0 (envM_S he0 hf) ⟨false, hok.2⟩ hS (Nat.zero_le _) hz hh (fun C1 st1 g1 g2 g3 g4 => ?_)
    obtain ⟨v, hv⟩ := fl_sum (R := noF) (N := N) (O := O) hok.2
    rw [hv] at g1
    cases g1
    have f1 := frS_W g4
    have hh1 : C1.1 113 p = nI n := (f1.1 113 p (by omega)).trans hh
    obtain ⟨w1, w2⟩ : C1.1 106 (620 * p + (k + l.length)) = 13 ∧ C1.2.1 107 (620 * p + (k + l.length)) = (nI i).toInt64 := (itM_S f1 q2) 0 _ rfl
    have hpv : C1.2.1 124 0 = e_V v := g2.2.1
    have hp1 : C1.1 76 73 = nI (0 + 1) := g2.1
    refine w_p (pc1 := 10) rfl rfl ?_
    refine w_p (pc1 := 11) rfl rfl ?_
    refine w_m0 (pc1 := 14) rfl rfl (h_gC rfl rfl rfl rfl) rfl ?_
    refine w_p (pc1 := 15) rfl rfl ?_
    refine w_m0 (pc1 := 16) (st1 := .int (nI (n)) :: _) rfl rfl (n_ile (e := p) rfl rfl rfl (by omega) (hh1)) rfl ?_
    refine w_f (a := 138) (b := 19) (bN_ge_f (a := k + l.length) (b := n) (by omega) (by omega) (by omega)) rfl rfl ?_
    refine w_p (pc1 := 20) rfl rfl ?_
    refine w_m0 (pc1 := 23) rfl rfl (h_gC rfl rfl rfl rfl) rfl ?_
    refine w_p (pc1 := 26) (st1 := .int 620 :: _) rfl rfl ?_
    refine w_p (pc1 := 27) rfl rfl ?_
    refine w_imul (pc1 := 28) (u := nI (620)) (v := nI (p)) (z := nI (620 * p)) rfl (nK_mul) rfl ?_
    refine w_p (pc1 := 30) rfl rfl ?_
    refine w_iadd (pc1 := 31) (u := nI (620 * p)) (v := nI (k + l.length)) (z := nI (620 * p + (k + l.length))) rfl (nK_add) rfl ?_
    refine w_m0 (pc1 := 32) (st1 := .long ((nI i).toInt64) :: _) rfl rfl (n_lle (e := 620 * p + (k + l.length)) rfl rfl rfl (by omega) (w2)) rfl ?_
    refine w_l2i (pc1 := 33) (z := nI (i)) rfl (i6432 _) rfl ?_
    refine w_p (pc1 := 35) (al1 := [(5, .int (nI (i))), (4, .int (nI (k + l.length))), (0, .ref 176), (1, .int (nI (p))), (2, .int (nI (b))), (3, .int (nI (f)))]) rfl rfl ?_
    refine w_p (pc1 := 36) rfl rfl ?_
    refine w_m0 (pc1 := 39) rfl rfl (h_gC rfl rfl rfl rfl) rfl ?_
    refine w_p (pc1 := 42) (st1 := .int 620 :: _) rfl rfl ?_
    refine w_p (pc1 := 43) rfl rfl ?_
    refine w_imul (pc1 := 44) (u := nI (620)) (v := nI (p)) (z := nI (620 * p)) rfl (nK_mul) rfl ?_
    refine w_p (pc1 := 46) rfl rfl ?_
    refine w_iadd (pc1 := 47) (u := nI (620 * p)) (v := nI (k + l.length)) (z := nI (620 * p + (k + l.length))) rfl (nK_add) rfl ?_
    refine w_m0 (pc1 := 48) (st1 := .int 13 :: _) rfl rfl (n_ile (e := 620 * p + (k + l.length)) rfl rfl rfl (by omega) (w1)) rfl ?_
    refine w_p (pc1 := 50) (st1 := .int 14 :: _) rfl rfl ?_
    refine w_t (a := 75) (b := 53) rfl rfl rfl ?_
    refine w_p (pc1 := 76) rfl rfl ?_
    refine w_m0 (pc1 := 79) rfl rfl (h_gC rfl rfl rfl rfl) rfl ?_
    refine w_p (pc1 := 82) (st1 := .int 620 :: _) rfl rfl ?_
    refine w_p (pc1 := 83) rfl rfl ?_
    refine w_imul (pc1 := 84) (u := nI (620)) (v := nI (p)) (z := nI (620 * p)) rfl (nK_mul) rfl ?_
    refine w_p (pc1 := 86) rfl rfl ?_
    refine w_iadd (pc1 := 87) (u := nI (620 * p)) (v := nI (k + l.length)) (z := nI (620 * p + (k + l.length))) rfl (nK_add) rfl ?_
    refine w_m0 (pc1 := 88) (st1 := .int 13 :: _) rfl rfl (n_ile (e := 620 * p + (k + l.length)) rfl rfl rfl (by omega) (w1)) rfl ?_
    refine w_p (pc1 := 90) (st1 := .int 13 :: _) rfl rfl ?_
    refine w_f (a := 122) (b := 93) rfl rfl rfl ?_
    refine w_p (pc1 := 94) rfl rfl ?_
    refine w_p (pc1 := 95) rfl rfl ?_
    refine w_m0 (pc1 := 98) (st1 := .int (nI (0 + 1)) :: _) rfl rfl (h_gIe (j := 73) rfl rfl rfl rfl rfl (hp1)) rfl ?_
    refine w_p (pc1 := 99) (st1 := .int 1 :: _) rfl rfl ?_
    refine w_isub (pc1 := 100) (z := nI (0)) rfl (nK_s) rfl ?_
    refine w_m0 (pc1 := 103) rfl rfl (h_pI (j := 73) rfl rfl rfl rfl rfl rfl rfl ⟨rfl, rfl⟩ rfl) rfl ?_
    refine w_p (pc1 := 104) rfl rfl ?_
    refine w_m0 (pc1 := 107) rfl rfl (h_gC rfl rfl rfl rfl) rfl ?_
    refine w_p (pc1 := 109) rfl rfl ?_
    refine w_p (pc1 := 110) rfl rfl ?_
    refine w_m0 (pc1 := 113) rfl rfl (h_gC rfl rfl rfl rfl) rfl ?_
    refine w_p (pc1 := 114) rfl rfl ?_
    refine w_m0 (pc1 := 117) (st1 := .int 0 :: _) rfl rfl (h_gIe (j := 73) rfl rfl rfl rfl rfl (rfl)) rfl ?_
    refine w_m0 (pc1 := 118) (st1 := .long (e_V v) :: _) rfl rfl (n_lle (e := 0) rfl rfl rfl (by omega) (hpv)) rfl ?_
    refine w_m0 (pc1 := 119) rfl rfl (n_ls (e := i) rfl rfl rfl (by omega)) rfl ?_
    refine w_p (pc1 := 132) rfl rfl ?_
    refine w_iinc (pc1 := 135) (u := nI (k + l.length)) (z := nI (k + l.length + 1)) (al1 := [(4, .int (nI (k + l.length + 1))), (5, .int (nI (i))), (0, .ref 176), (1, .int (nI (p))), (2, .int (nI (b))), (3, .int (nI (f)))]) rfl rfl rfl nK_1 rfl rfl ?_
    refine w_p (pc1 := 8) rfl rfl ?_
    refine Wd_al (al := [(4, .int (nI (k + l.length + 1))), (0, .ref 176), (1, .int (nI (p))), (2, .int (nI (b))), (3, .int (nI (f)))]) (sba_p [0, 2, 3, 4, 5] rfl rfl) ?_
    have fs : frS C1 (sJ (sI C1 76 73 (nI 0)) 138 i (e_V v)) := frS_t frS_I frS_J
    have e0 : insV df N O g i (some l :: ss) = match smv noF N O (some l) with | none => none | some v => insV df N O (upF g i v) (i + 1) ss := rfl
    have e1 : smv noF N O (some l) = match f_l false noF N O l [] with | none => none | some st => (match st with | .inl v :: _ => some v | _ => some none) := rfl
    have hgo := fun z2 hz2 a1 a2 => lp_259o hp hn6 hb hm hdf hh0 he0 H1 H2 ss (i + 1) (k + l.length + 1) (sJ (sI C1 76 73 (nI 0)) 138 i (e_V v)) z2 (upF g i v) (by omega) (by omega) (itM_S (frS_t f1 fs) q3) (fun s hs => ho s (List.mem_cons_of_mem _ hs)) ⟨rfl, trivial⟩ hz2 (frS_t hf (frS_t f1 fs)) a1 a2
    cases hfl : f_l false noF N O l [] with
    | none =>
      rw [hfl] at g3 e1
      have e2 : smv noF N O (some l) = none := e1
      refine hgo true (by rw [show (sJ (sI C1 76 73 (nI 0)) 138 i (e_V v)).1 76 74 = C1.1 76 74 from rfl, g3]; cases z <;> rfl) (fun e => by cases e) (fun _ => ?_)
      cases z with
      | true => exact hz1 rfl
      | false => rw [← (hz0 rfl).2, e0, e2]
    | some st =>
      have hv2 := fl_t l [] st hfl
      rw [hv] at hv2
      cases hv2
      rw [hfl] at g3 e1
      have e2 : smv noF N O (some l) = some v := e1
      refine hgo z (by rw [show (sJ (sI C1 76 73 (nI 0)) 138 i (e_V v)).1 76 74 = C1.1 76 74 from rfl, g3]; cases z <;> rfl) (fun e => ⟨fun c hc => ?_, ?_⟩) hz1
      · rw [sJ_2]
        unfold upF
        by_cases e3 : c = i
        · rw [if_pos ⟨rfl, e3⟩, if_pos e3]
        · rw [if_neg (by omega), if_neg e3]
          show C1.2.1 138 c = _
          rw [g4.2.1 138 _ (by decide)]
          exact (hz0 e).1 c (by omega)
      · rw [← (hz0 e).2, e0, e2]
end ME3
