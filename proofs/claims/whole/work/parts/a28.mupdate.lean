
/-! THE OTHER SIDE'S ENGINE: a step of an update begins -/
section ME5
variable {L : Nat} {xs : Nat → Int32} {C : co_T} {t : ab_H} {d sl b f p n k w1 w2 w3 F u D v kr : Nat} {S : st_T} {R N O : rw_F} {r : ro_T} {σ : es_T} {ii : Int32} {P : Option Value → ab_H → Nat → Prop} {X : Nat → ab_H → Nat → Prop}
set_option maxRecDepth 100000 in
theorem lp_264i (hp : p ≤ 40) (hn6 : n ≤ 619) : ∀ (l : List op_T) (k : Nat) (C : co_T) (st : List tv_T) (z : Bool), k + l.length ≤ n → itM C p k (l.map Sum.inl) → envM C (6 * (40 * b + kr)) f w1 w2 w3 R N O → (∃ b, t_l w1 w2 w3 l (st.map tyv) = some [b]) → PIL C st → st.length ≤ k → C.1 76 74 = ck z →
    (∀ C' st', f_l true R N O l st = some st' → PIL C' st' → C'.1 76 74 = ck (z || (f_l false R N O l st).isNone) → frW C C' → Wd L xs (d + 4) y_264 (66, [(7, .int (nI (k + l.length))), (0, .ref 176), (1, .int (nI (p))), (2, .int (nI (b))), (3, .int (nI (kr))), (4, .int (ii)), (5, .int (nI (f))), (6, .int (nI (n)))], [], MH C' t, sl) P X) → Wd L xs (d + 4) y_264 (66, [(7, .int (nI (k))), (0, .ref 176), (1, .int (nI (p))), (2, .int (nI (b))), (3, .int (nI (kr))), (4, .int (ii)), (5, .int (nI (f))), (6, .int (nI (n)))], [], MH C t, sl) P X
  | [], k, C, st, z, hk, hq, he, ht, hS, hl, hz, H => H C st rfl hS (by rw [hz]; cases z <;> rfl) frW_r
  | q :: l, k, C, st, z, hk, hq, he, ht, hS, hl, hz, H => by
    have hk : k + (l.length + 1) ≤ n := hk
    obtain ⟨b0, hb⟩ := ht
    have hb : (t_1 w1 w2 w3 q (st.map tyv)).bind (t_l w1 w2 w3 l) = some [b0] := hb
    cases hT : t_1 w1 w2 w3 q (st.map tyv) with
    | none => rw [hT] at hb; cases hb
    | some T1 =>
    rw [hT] at hb
    have hb : t_l w1 w2 w3 l T1 = some [b0] := hb
    obtain ⟨hq0, hq1⟩ := itM_c hq
    have h0 : eqO q (C.1 106 (620 * p + k)) (C.2.1 107 (620 * p + k)) := hq0 0 _ rfl
    refine w_p (pc1 := 68) rfl rfl ?_
    refine w_p (pc1 := 70) rfl rfl ?_
    refine w_f (a := 157) (b := 73) (bN_ge_f (a := k) (b := n) (by omega) (by omega) (by omega)) rfl rfl ?_
    refine w_p (pc1 := 74) rfl rfl ?_
    refine w_m0 (pc1 := 77) rfl rfl (h_gC rfl rfl rfl rfl) rfl ?_
    refine w_p (pc1 := 80) (st1 := .int 620 :: _) rfl rfl ?_
    refine w_p (pc1 := 81) rfl rfl ?_
    refine w_imul (pc1 := 82) (u := nI (620)) (v := nI (p)) (z := nI (620 * p)) rfl (nK_mul) rfl ?_
    refine w_p (pc1 := 84) rfl rfl ?_
    refine w_iadd (pc1 := 85) (u := nI (620 * p)) (v := nI (k)) (z := nI (620 * p + k)) rfl (nK_add) rfl ?_
    refine w_m0 (pc1 := 86) rfl rfl (n_il (e := 620 * p + k) rfl rfl rfl (by omega)) rfl ?_
    refine w_p (pc1 := 88) (st1 := .int 15 :: _) rfl rfl ?_
    refine w_t (a := 132) (b := 91) (cb_ne_t (by exact (eqO_w h0).2.2)) rfl rfl ?_
    refine w_p (pc1 := 133) rfl rfl ?_
    refine w_p (pc1 := 134) rfl rfl ?_
    refine w_p (pc1 := 136) rfl rfl ?_
    refine w_p (pc1 := 138) (st1 := .int 6 :: _) rfl rfl ?_
    refine w_p (pc1 := 140) (st1 := .int 40 :: _) rfl rfl ?_
    refine w_p (pc1 := 141) rfl rfl ?_
    refine w_imul (pc1 := 142) (u := nI (40)) (v := nI (b)) (z := nI (40 * b)) rfl (nK_mul) rfl ?_
    refine w_p (pc1 := 143) rfl rfl ?_
    refine w_iadd (pc1 := 144) (u := nI (40 * b)) (v := nI (kr)) (z := nI (40 * b + kr)) rfl (nK_add) rfl ?_
    refine w_imul (pc1 := 145) (u := nI (6)) (v := nI (40 * b + kr)) (z := nI (6 * (40 * b + kr))) rfl (nK_mul) rfl ?_
    refine w_p (pc1 := 147) rfl rfl ?_
    refine w_p (pc1 := 148) (st1 := .int 0 :: _) rfl rfl ?_
    refine w_ji (pc1 := 151) (vs := [.ref 176, .int (nI (p)), .int (nI (k)), .int (nI (6 * (40 * b + kr))), .int (nI (f)), .int 0]) (rest := []) (m_252 (d := d + 1) (sl := 0) (g := false) (z := z) he h0 hp (by omega) hT hS (by omega) hz) rfl rfl rfl (fun _ _ => rfl) rfl (by exact cl_v my_252 rfl rfl rfl (Nat.le_of_ble_eq_true rfl) rfl (MH_obj rfl rfl) rfl (by decide) rfl rfl) (by rfl) (Nat.le_of_ble_eq_true rfl) (Nat.le_of_ble_eq_true rfl) rfl (fun v h m hq1 => ?_) (fun _ _ _ e => e.elim)
    obtain ⟨rfl, ⟨C1, ⟨st1, f1, f2, f3, f4, f5⟩, rfl⟩, rfl⟩ := hq1
    refine w_iinc (pc1 := 154) (u := nI (k)) (z := nI (k + 1)) (al1 := [(7, .int (nI (k + 1))), (0, .ref 176), (1, .int (nI (p))), (2, .int (nI (b))), (3, .int (nI (kr))), (4, .int (ii)), (5, .int (nI (f))), (6, .int (nI (n)))]) rfl rfl rfl nK_1 rfl rfl ?_
    refine w_p (pc1 := 66) rfl rfl ?_
    refine lp_264i hp hn6 l (k + 1) C1 st1 (z || (f_1 false R N O q st).isNone) (by omega) (itM_S (frS_W f5) hq1) (envM_f he f5) ⟨b0, by rw [f2]; exact hb⟩ f3 ?_ f4 (fun C2 st2 g1 g2 g3 g4 => ?_)
    · have h3 := congrArg List.length f2
      have h4 := t_1len hT
      rw [List.length_map] at h3 h4
      omega
    · have := H C2 st2 (by show (f_1 true R N O q st).bind (f_l true R N O l) = _; rw [f1]; exact g1) g2 (by rw [g3]; exact congrArg ck (fl_or f1)) (frW_t f5 g4)
      rw [show k + (q :: l).length = k + 1 + l.length by rw [List.length_cons]; omega] at this
      exact this
set_option maxRecDepth 100000 in
theorem lp_264o {C0 : co_T} {V0 : Option rw_F} {w : Nat} (hp : p ≤ 40) (hn6 : n ≤ 619) (hw : w ≤ 6) (he0 : envM C0 (6 * (40 * b + kr)) f w1 w2 w3 R N O)
    (H1 : ∀ C' g, V0 = some g → (∀ c, c < w → C'.2.1 138 c = e_V (g c)) → C'.1 76 74 = 0 → frS C0 C' → Wd L xs (d + 4) y_264 (157, [(0, .ref 176), (1, .int (nI (p))), (2, .int (nI (b))), (3, .int (nI (kr))), (4, .int (ii)), (5, .int (nI (f))), (6, .int (nI (n)))], [], MH C' t, sl) P X)
    (H2 : ∀ C', V0 = none → C'.1 76 74 = 1 → frS C0 C' → Wd L xs (d + 4) y_264 (157, [(0, .ref 176), (1, .int (nI (p))), (2, .int (nI (b))), (3, .int (nI (kr))), (4, .int (ii)), (5, .int (nI (f))), (6, .int (nI (n)))], [], MH C' t, sl) P X) : ∀ (cs : List Nat) (ss : List (Option (List op_T))) (k : Nat) (C : co_T) (z : Bool) (g : rw_F), cs.length = ss.length → k + (sIt cs ss).length = n → itM C p k (sIt cs ss) → (∀ c, c ∈ cs → c < w) → (∀ s, s ∈ ss → s ≠ none ∧ okS w1 w2 w3 s) → PIL C [] → C.1 76 74 = ck z → frS C0 C → (z = false → (∀ c, c < w → C.2.1 138 c = e_V (g c)) ∧ setS R N O g cs ss = V0) → (z = true → V0 = none) → Wd L xs (d + 4) y_264 (66, [(7, .int (nI (k))), (0, .ref 176), (1, .int (nI (p))), (2, .int (nI (b))), (3, .int (nI (kr))), (4, .int (ii)), (5, .int (nI (f))), (6, .int (nI (n)))], [], MH C t, sl) P X
  | [], ss, k, C, z, g, hcl, hk, hq, hc, ho, hS, hz, hf, hz0, hz1 => by
    have e0 : sIt [] ss = [] := by unfold sIt; rfl
    rw [e0] at hk
    have hk : k = n := hk
    have H : Wd L xs (d + 4) y_264 (157, [(0, .ref 176), (1, .int (nI (p))), (2, .int (nI (b))), (3, .int (nI (kr))), (4, .int (ii)), (5, .int (nI (f))), (6, .int (nI (n)))], [], MH C t, sl) P X := by
      cases z with
      | false =>
        obtain ⟨h1, h2⟩ := hz0 rfl
        have e1 : setS R N O g [] ss = some g := by unfold setS; rfl
        exact H1 C g (h2.symm.trans e1) h1 hz hf
      | true => exact H2 C (hz1 rfl) hz hf
    refine w_p (pc1 := 68) rfl rfl ?_
    refine w_p (pc1 := 70) rfl rfl ?_
    refine w_t (a := 157) (b := 73) (bN_ge_t (a := k) (b := n) (by omega) (by omega) (by omega)) rfl rfl ?_
    refine Wd_al (al := [(0, .ref 176), (1, .int (nI (p))), (2, .int (nI (b))), (3, .int (nI (kr))), (4, .int (ii)), (5, .int (nI (f))), (6, .int (nI (n)))]) (sba_p [1, 2, 3, 4, 5, 6, 7] rfl rfl) ?_
    exact H
  | c :: cs, [], k, C, z, g, hcl, hk, hq, hc, ho, hS, hz, hf, hz0, hz1 => by cases hcl
  | c :: cs, none :: ss, k, C, z, g, hcl, hk, hq, hc, ho, hS, hz, hf, hz0, hz1 => absurd rfl (ho none (List.mem_cons_self ..)).1
  | c :: cs, some l :: ss, k, C, z, g, hcl, hk, hq, hc, ho, hS, hz, hf, hz0, hz1 => by
    have hcl : cs.length + 1 = ss.length + 1 := hcl
    have ep : sIt (c :: cs) (some l :: ss) = l.map Sum.inl ++ (.inr (15, c) :: sIt cs ss) := rfl
    rw [ep, List.length_append, List.length_map, List.length_cons] at hk
    rw [ep] at hq
    obtain ⟨q0, q1⟩ := itM_a hq
    rw [List.length_map] at q1
    obtain ⟨q2, q3⟩ := itM_c q1
    have hok := (ho _ (List.mem_cons_self ..)).2
    have hcw := hc c (List.mem_cons_self ..)
    refine lp_264i hp hn6 l k C [] z (by omega) q0 (envM_S he0 hf) ⟨false, hok.2⟩ hS (Nat.zero_le _) hz (fun C1 st1 g1 g2 g3 g4 => ?_)
    obtain ⟨v, hv⟩ := fl_sum (R := R) (N := N) (O := O) hok.2
    rw [hv] at g1
    cases g1
    have f1 := frS_W g4
    obtain ⟨v1, v2⟩ : C1.1 106 (620 * p + (k + l.length)) = 15 ∧ C1.2.1 107 (620 * p + (k + l.length)) = (nI c).toInt64 := (itM_S f1 q2) 0 _ rfl
    have hpv : C1.2.1 124 0 = e_V v := g2.2.1
    have hp1 : C1.1 76 73 = nI (0 + 1) := g2.1
    refine w_p (pc1 := 68) rfl rfl ?_
    refine w_p (pc1 := 70) rfl rfl ?_
    refine w_f (a := 157) (b := 73) (bN_ge_f (a := k + l.length) (b := n) (by omega) (by omega) (by omega)) rfl rfl ?_
    refine w_p (pc1 := 74) rfl rfl ?_
    refine w_m0 (pc1 := 77) rfl rfl (h_gC rfl rfl rfl rfl) rfl ?_
    refine w_p (pc1 := 80) (st1 := .int 620 :: _) rfl rfl ?_
    refine w_p (pc1 := 81) rfl rfl ?_
    refine w_imul (pc1 := 82) (u := nI (620)) (v := nI (p)) (z := nI (620 * p)) rfl (nK_mul) rfl ?_
    refine w_p (pc1 := 84) rfl rfl ?_
    refine w_iadd (pc1 := 85) (u := nI (620 * p)) (v := nI (k + l.length)) (z := nI (620 * p + (k + l.length))) rfl (nK_add) rfl ?_
    refine w_m0 (pc1 := 86) (st1 := .int 15 :: _) rfl rfl (n_ile (e := 620 * p + (k + l.length)) rfl rfl rfl (by omega) (v1)) rfl ?_
    refine w_p (pc1 := 88) (st1 := .int 15 :: _) rfl rfl ?_
    refine w_f (a := 132) (b := 91) rfl rfl rfl ?_
    refine w_p (pc1 := 92) rfl rfl ?_
    refine w_p (pc1 := 93) rfl rfl ?_
    refine w_m0 (pc1 := 96) (st1 := .int (nI (0 + 1)) :: _) rfl rfl (h_gIe (j := 73) rfl rfl rfl rfl rfl (hp1)) rfl ?_
    refine w_p (pc1 := 97) (st1 := .int 1 :: _) rfl rfl ?_
    refine w_isub (pc1 := 98) (z := nI (0)) rfl (nK_s) rfl ?_
    refine w_m0 (pc1 := 101) rfl rfl (h_pI (j := 73) rfl rfl rfl rfl rfl rfl rfl ⟨rfl, rfl⟩ rfl) rfl ?_
    refine w_p (pc1 := 102) rfl rfl ?_
    refine w_m0 (pc1 := 105) rfl rfl (h_gC rfl rfl rfl rfl) rfl ?_
    refine w_p (pc1 := 106) rfl rfl ?_
    refine w_m0 (pc1 := 109) rfl rfl (h_gC rfl rfl rfl rfl) rfl ?_
    refine w_p (pc1 := 112) (st1 := .int 620 :: _) rfl rfl ?_
    refine w_p (pc1 := 113) rfl rfl ?_
    refine w_imul (pc1 := 114) (u := nI (620)) (v := nI (p)) (z := nI (620 * p)) rfl (nK_mul) rfl ?_
    refine w_p (pc1 := 116) rfl rfl ?_
    refine w_iadd (pc1 := 117) (u := nI (620 * p)) (v := nI (k + l.length)) (z := nI (620 * p + (k + l.length))) rfl (nK_add) rfl ?_
    refine w_m0 (pc1 := 118) (st1 := .long ((nI c).toInt64) :: _) rfl rfl (n_lle (e := 620 * p + (k + l.length)) rfl rfl rfl (by omega) (v2)) rfl ?_
    refine w_l2i (pc1 := 119) (z := nI (c)) rfl (i6432 _) rfl ?_
    refine w_p (pc1 := 120) rfl rfl ?_
    refine w_m0 (pc1 := 123) rfl rfl (h_gC rfl rfl rfl rfl) rfl ?_
    refine w_p (pc1 := 124) rfl rfl ?_
    refine w_m0 (pc1 := 127) (st1 := .int 0 :: _) rfl rfl (h_gIe (j := 73) rfl rfl rfl rfl rfl (rfl)) rfl ?_
    refine w_m0 (pc1 := 128) (st1 := .long (e_V v) :: _) rfl rfl (n_lle (e := 0) rfl rfl rfl (by omega) (hpv)) rfl ?_
    refine w_m0 (pc1 := 129) rfl rfl (n_ls (e := c) rfl rfl rfl (by omega)) rfl ?_
    refine w_p (pc1 := 151) rfl rfl ?_
    refine w_iinc (pc1 := 154) (u := nI (k + l.length)) (z := nI (k + l.length + 1)) (al1 := [(7, .int (nI (k + l.length + 1))), (0, .ref 176), (1, .int (nI (p))), (2, .int (nI (b))), (3, .int (nI (kr))), (4, .int (ii)), (5, .int (nI (f))), (6, .int (nI (n)))]) rfl rfl rfl nK_1 rfl rfl ?_
    refine w_p (pc1 := 66) rfl rfl ?_
    have fs : frS C1 (sJ (sI C1 76 73 (nI 0)) 138 c (e_V v)) := frS_t frS_I frS_J
    have e0 : setS R N O g (c :: cs) (some l :: ss) = match smv R N O (some l) with | none => none | some v => setS R N O (upF g c v) cs ss := rfl
    have e1 : smv R N O (some l) = match f_l false R N O l [] with | none => none | some st => (match st with | .inl v :: _ => some v | _ => some none) := rfl
    have hgo := fun z2 hz2 a1 a2 => lp_264o hp hn6 hw he0 H1 H2 cs ss (k + l.length + 1) (sJ (sI C1 76 73 (nI 0)) 138 c (e_V v)) z2 (upF g c v) (by omega) (by omega) (itM_S (frS_t f1 fs) q3) (fun x hx => hc x (List.mem_cons_of_mem _ hx)) (fun s hs => ho s (List.mem_cons_of_mem _ hs)) ⟨rfl, trivial⟩ hz2 (frS_t hf (frS_t f1 fs)) a1 a2
    cases hfl : f_l false R N O l [] with
    | none =>
      rw [hfl] at g3 e1
      have e2 : smv R N O (some l) = none := e1
      refine hgo true (by rw [show (sJ (sI C1 76 73 (nI 0)) 138 c (e_V v)).1 76 74 = C1.1 76 74 from rfl, g3]; cases z <;> rfl) (fun e => by cases e) (fun _ => ?_)
      cases z with
      | true => exact hz1 rfl
      | false => rw [← (hz0 rfl).2, e0, e2]
    | some st =>
      have hv2 := fl_t l [] st hfl
      rw [hv] at hv2
      cases hv2
      rw [hfl] at g3 e1
      have e2 : smv R N O (some l) = some v := e1
      refine hgo z (by rw [show (sJ (sI C1 76 73 (nI 0)) 138 c (e_V v)).1 76 74 = C1.1 76 74 from rfl, g3]; cases z <;> rfl) (fun e => ⟨fun x hx => ?_, ?_⟩) hz1
      · rw [sJ_2]
        unfold upF
        by_cases e3 : x = c
        · rw [if_pos ⟨rfl, e3⟩, if_pos e3]
        · rw [if_neg (by omega), if_neg e3]
          show C1.2.1 138 x = _
          rw [g4.2.1 138 _ (by decide)]
          exact (hz0 e).1 x hx
      · rw [← (hz0 e).2, e0, e2]
set_option maxRecDepth 100000 in
theorem lp_264a {C0 : co_T} (hb : b < 6) (hk : kr < 40) (H : ∀ C', frS C0 C' → C'.1 76 74 = C0.1 76 74 → (∀ j, j < 6 → C'.2.1 138 j = C0.2.1 116 ((b * 40 + kr) * 6 + j)) → Wd L xs (d + 4) y_264 (58, [(0, .ref 176), (1, .int (nI (p))), (2, .int (nI (b))), (3, .int (nI (kr))), (4, .int (ii)), (5, .int (nI (f))), (6, .int (nI (n)))], [], MH C' t, sl) P X) : ∀ (m c : Nat) (C : co_T), c + m = 6 → frS C0 C → C.1 76 74 = C0.1 76 74 → (∀ j, j < c → C.2.1 138 j = C0.2.1 116 ((b * 40 + kr) * 6 + j)) → Wd L xs (d + 4) y_264 (30, [(7, .int (nI (c))), (0, .ref 176), (1, .int (nI (p))), (2, .int (nI (b))), (3, .int (nI (kr))), (4, .int (ii)), (5, .int (nI (f))), (6, .int (nI (n)))], [], MH C t, sl) P X
  | 0, c, C, hc, hf, hz, hT => by
    obtain rfl : c = 6 := by omega
    refine w_p (pc1 := 32) rfl rfl ?_
    refine w_p (pc1 := 34) (st1 := .int 6 :: _) rfl rfl ?_
    refine w_t (a := 58) (b := 37) (bN_ge_t (a := 6) (b := 6) (by omega) (by omega) (by omega)) rfl rfl ?_
    refine Wd_al (al := [(0, .ref 176), (1, .int (nI (p))), (2, .int (nI (b))), (3, .int (nI (kr))), (4, .int (ii)), (5, .int (nI (f))), (6, .int (nI (n)))]) (sba_p [1, 2, 3, 4, 5, 6, 7] rfl rfl) ?_
    exact H C hf hz hT
  | m + 1, c, C, hc, hf, hz, hT => by
    have hv : C.2.1 116 ((b * 40 + kr) * 6 + c) = C0.2.1 116 ((b * 40 + kr) * 6 + c) := hf.2.1 116 _ (by decide) (by decide)
    have hm1 := m_263 (L := L) (xs := xs) (C := C) (t := t) (d := d + 3) (sl := 0) hb hk (c := c) (by omega)
    refine w_p (pc1 := 32) rfl rfl ?_
    refine w_p (pc1 := 34) (st1 := .int 6 :: _) rfl rfl ?_
    refine w_f (a := 58) (b := 37) (bN_ge_f (a := c) (b := 6) (by omega) (by omega) (by omega)) rfl rfl ?_
    refine w_p (pc1 := 38) rfl rfl ?_
    refine w_m0 (pc1 := 41) rfl rfl (h_gC rfl rfl rfl rfl) rfl ?_
    refine w_p (pc1 := 43) rfl rfl ?_
    refine w_p (pc1 := 44) rfl rfl ?_
    refine w_p (pc1 := 45) rfl rfl ?_
    refine w_p (pc1 := 46) rfl rfl ?_
    refine w_p (pc1 := 48) rfl rfl ?_
    refine w_je (pc1 := 51) (vs := [.ref 176, .int (nI (b)), .int (nI (kr)), .int (nI (c))]) (rest := [.int (nI (c)), .ref 238]) (st1 := [.long (C.2.1 116 ((b * 40 + kr) * 6 + c)), .int (nI (c)), .ref 238]) (hm1) rfl rfl rfl (fun _ _ => rfl) rfl (by exact cl_v my_263 rfl rfl rfl (Nat.le_of_ble_eq_true rfl) rfl (MH_obj rfl rfl) rfl (by decide) rfl rfl) (by rfl) (Nat.le_of_ble_eq_true rfl) (Nat.le_of_ble_eq_true rfl) rfl (by rfl) ?_
    refine w_m0 (pc1 := 52) rfl rfl (n_ls (e := c) rfl rfl rfl (by omega)) rfl ?_
    refine w_iinc (pc1 := 55) (u := nI (c)) (z := nI (c + 1)) (al1 := [(7, .int (nI (c + 1))), (0, .ref 176), (1, .int (nI (p))), (2, .int (nI (b))), (3, .int (nI (kr))), (4, .int (ii)), (5, .int (nI (f))), (6, .int (nI (n)))]) rfl rfl rfl nK_1 rfl rfl ?_
    refine w_p (pc1 := 30) rfl rfl ?_
    refine lp_264a hb hk H m (c + 1) _ (by omega) (frS_t hf frS_J) hz (fun j hj => ?_)
    rw [sJ_2]
    by_cases e : j = c
    · rw [if_pos ⟨rfl, e⟩, hv, e]
    · rw [if_neg (by omega)]
      exact hT j (by omega)
set_option maxRecDepth 100000 in
theorem lp_264f {C0 : co_T} (hF : F < 40) : ∀ (m c : Nat) (C : co_T), c + m = 6 → frO F C0 C → (∀ j, C.2.1 137 j = C0.2.1 137 j) → (∀ j, j < c → C.2.1 136 (6 * F + j) = C0.2.1 138 j) → Wd L xs (d + 4) y_264 (197, [(8, .int (nI (c))), (7, .int (nI (F))), (0, .ref 176), (1, .int (nI (p))), (2, .int (nI (b))), (3, .int (nI (kr))), (4, .int (ii)), (5, .int (nI (f))), (6, .int (nI (n)))], [], MH C t, sl) (fun v h m => none = v ∧ (∃ C', (frO F C0 C' ∧ (∀ j, C'.2.1 137 j = C0.2.1 137 j) ∧ ∀ j, j < 6 → C'.2.1 136 (6 * F + j) = C0.2.1 138 j) ∧ MH C' t = h) ∧ sl = m) nX
  | 0, c, C, hc, hO, h7, hT => by
    obtain rfl : c = 6 := by omega
    refine w_p (pc1 := 199) rfl rfl ?_
    refine w_p (pc1 := 201) (st1 := .int 6 :: _) rfl rfl ?_
    refine w_t (a := 230) (b := 204) (bN_ge_t (a := 6) (b := 6) (by omega) (by omega) (by omega)) rfl rfl ?_
    refine w_r rfl rfl rfl (fun _ _ => rfl) rfl ?_
    exact ⟨rfl, ⟨C, ⟨hO, h7, hT⟩, rfl⟩, rfl⟩
  | m + 1, c, C, hc, hO, h7, hT => by
    have hv : C.2.1 138 c = C0.2.1 138 c := hO.2.1 138 c (by omega)
    refine w_p (pc1 := 199) rfl rfl ?_
    refine w_p (pc1 := 201) (st1 := .int 6 :: _) rfl rfl ?_
    refine w_f (a := 230) (b := 204) (bN_ge_f (a := c) (b := 6) (by omega) (by omega) (by omega)) rfl rfl ?_
    refine w_p (pc1 := 205) rfl rfl ?_
    refine w_m0 (pc1 := 208) rfl rfl (h_gC rfl rfl rfl rfl) rfl ?_
    refine w_p (pc1 := 210) (st1 := .int 6 :: _) rfl rfl ?_
    refine w_p (pc1 := 212) rfl rfl ?_
    refine w_imul (pc1 := 213) (u := nI (6)) (v := nI (F)) (z := nI (6 * F)) rfl (nK_mul) rfl ?_
    refine w_p (pc1 := 215) rfl rfl ?_
    refine w_iadd (pc1 := 216) (u := nI (6 * F)) (v := nI (c)) (z := nI (6 * F + c)) rfl (nK_add) rfl ?_
    refine w_p (pc1 := 217) rfl rfl ?_
    refine w_m0 (pc1 := 220) rfl rfl (h_gC rfl rfl rfl rfl) rfl ?_
    refine w_p (pc1 := 222) rfl rfl ?_
    refine w_m0 (pc1 := 223) (st1 := .long (C0.2.1 138 c) :: _) rfl rfl (n_lle (e := c) rfl rfl rfl (by omega) (hv)) rfl ?_
    refine w_m0 (pc1 := 224) rfl rfl (n_ls (e := 6 * F + c) rfl rfl rfl (by omega)) rfl ?_
    refine w_iinc (pc1 := 227) (u := nI (c)) (z := nI (c + 1)) (al1 := [(8, .int (nI (c + 1))), (7, .int (nI (F))), (0, .ref 176), (1, .int (nI (p))), (2, .int (nI (b))), (3, .int (nI (kr))), (4, .int (ii)), (5, .int (nI (f))), (6, .int (nI (n)))]) rfl rfl rfl nK_1 rfl rfl ?_
    refine w_p (pc1 := 197) rfl rfl ?_
    refine lp_264f (C0 := C0) hF m (c + 1) _ (by omega) (frO_t hO (frO_J (by omega))) (fun j => by rw [sJ_2, if_neg (by omega)]; exact h7 j) (fun j hj => ?_)
    rw [sJ_2]
    by_cases e : j = c
    · rw [if_pos ⟨rfl, by omega⟩, e]
    · rw [if_neg (by omega)]
      exact hT j (by omega)
set_option maxRecDepth 100000 in
theorem m_264 {a : ac_T} (K : MSt C S) (E : MEn C (sWd S) σ D F) (ho : okSt S) (hF : F < 40) (hb : b < 6) (hp : p ≤ 40) (A : ACM C p a) (hk1 : aKd a = 1) (hcl : (aCs a).length = (aSs a).length) (hcw : ∀ c, c ∈ aCs a → c < sWd S b) (hok : ∀ s, s ∈ aSs a → s ≠ none ∧ okS (sWd S b) w2 w3 s) (he : envM C (6 * (40 * b + kr)) f (sWd S b) w2 w3 r.2 N O) (hr : (σ.1 b).1[kr]? = some r) : Wd L xs (d + 4) y_264 (0, [(0, .ref 176), (1, .int (nI (p))), (2, .int (nI (b))), (3, .int (nI (kr))), (4, .int (ii)), (5, .int (nI (f)))], [], MH C t, sl) (BSP C t F σ.2.1 D σ.2.2 sl 1 (nI b) ii (sWd S b) (sWd S b) r.2 (setS r.2 N O r.2 (aCs a) (aSs a))) nX := by
  obtain ⟨hW, hnx, hX, hDp, hFr, h89, h74⟩ := E
  obtain ⟨a1, a2, a3⟩ := A.2.2.2.1 hk1
  have hw6 := ho.1 b hb
  have hkl := get_lt hr
  obtain ⟨g1, g2, g3, g4⟩ := hW b hb
  generalize hn : (sIt (aCs a) (aSs a)).length = n at *
  have HH : Wd L xs (d + 4) y_264 (27, [(6, .int (nI (n))), (0, .ref 176), (1, .int (nI (p))), (2, .int (nI (b))), (3, .int (nI (kr))), (4, .int (ii)), (5, .int (nI (f)))], [], MH C t, sl) (BSP C t F σ.2.1 D σ.2.2 sl 1 (nI b) ii (sWd S b) (sWd S b) r.2 (setS r.2 N O r.2 (aCs a) (aSs a))) nX := by
    refine w_p (pc1 := 28) (st1 := .int 0 :: _) rfl rfl ?_
    refine w_p (pc1 := 30) (al1 := [(7, .int 0), (6, .int (nI (n))), (0, .ref 176), (1, .int (nI (p))), (2, .int (nI (b))), (3, .int (nI (kr))), (4, .int (ii)), (5, .int (nI (f)))]) rfl rfl ?_
    refine Wd_al (al := [(7, .int 0), (0, .ref 176), (1, .int (nI (p))), (2, .int (nI (b))), (3, .int (nI (kr))), (4, .int (ii)), (5, .int (nI (f))), (6, .int (nI (n)))]) (sba_p [0, 2, 3, 4, 5, 6, 7, 1] rfl rfl) ?_
    refine lp_264a (C0 := C) hb (by omega) (fun C1 e1 e2 e3 => ?_) 6 0 C rfl frS_r rfl (fun j hj => absurd hj (by omega))
    refine w_p (pc1 := 59) rfl rfl ?_
    refine w_p (pc1 := 60) (st1 := .int 0 :: _) rfl rfl ?_
    refine w_m0 (pc1 := 63) rfl rfl (h_pI (j := 73) rfl rfl rfl rfl rfl rfl rfl ⟨rfl, rfl⟩ rfl) rfl ?_
    refine w_p (pc1 := 64) (st1 := .int 0 :: _) rfl rfl ?_
    refine w_p (pc1 := 66) (al1 := [(7, .int 0), (0, .ref 176), (1, .int (nI (p))), (2, .int (nI (b))), (3, .int (nI (kr))), (4, .int (ii)), (5, .int (nI (f))), (6, .int (nI (n)))]) rfl rfl ?_
    have f0 : frS C1 (sI C1 76 73 0) := frS_I
    refine lp_264o (C0 := C) (V0 := setS r.2 N O r.2 (aCs a) (aSs a)) (w := sWd S b) (w1 := sWd S b) (w2 := w2) (w3 := w3) (R := r.2) (N := N) (O := O) hp a1 hw6 he (fun C2 g q1 q2 q3 q4 => ?_) (fun C2 q1 q2 q3 => ?_) (aCs a) (aSs a) 0 (sI C1 76 73 0) false r.2 hcl (by rw [hn, Nat.zero_add]) (itM_S (frS_t e1 f0) a2) hcw hok ⟨rfl, trivial⟩ (e2.trans h74) (frS_t e1 f0) (fun _ => ⟨fun c hc => (e3 c (by omega)).trans ((g4 kr r hr).2 c hc), rfl⟩) (fun z => by cases z)
    · have g93 : C2.1 76 93 = nI σ.2.1 := (q4.1 76 93 (by omega)).trans hX.1
      have g94 : C2.1 76 94 = nI D := (q4.1 76 94 (by omega)).trans hDp.1
      have g95 : C2.1 76 95 = nI σ.2.2 := (q4.1 76 95 (by omega)).trans hX.2.2.1
      have g75 : C2.1 76 75 = nI F := (q4.1 76 75 (by omega)).trans hFr.1
      have g89 : C2.1 76 89 = 0 := (q4.1 76 89 (by omega)).trans h89
      by_cases hx : 300 ≤ σ.2.1 ∨ 12 ≤ D
      · skip
        refine w_p (pc1 := 158) rfl rfl ?_
        refine w_m0 (pc1 := 161) (st1 := .int 0 :: _) rfl rfl (h_gIe (j := 74) rfl rfl rfl rfl rfl (q3)) rfl ?_
        refine w_t (a := 170) (b := 164) rfl rfl rfl ?_
        refine w_p (pc1 := 171) rfl rfl ?_
        refine w_p (pc1 := 172) (st1 := .int 1 :: _) rfl rfl ?_
        refine w_p (pc1 := 173) rfl rfl ?_
        refine w_p (pc1 := 175) rfl rfl ?_
        refine w_je (pc1 := 178) (vs := [.ref 176, .int 1, .int (nI (b)), .int (ii)]) (rest := []) (st1 := [.int (-1)]) (m_260x (d := d + 2) (sl := 0) g93 hX.2.1 g94 hDp.2 g89 hx) rfl rfl rfl (fun _ _ => rfl) rfl (by exact cl_v my_260 rfl rfl rfl (Nat.le_of_ble_eq_true rfl) rfl (MH_obj rfl rfl) rfl (by decide) rfl rfl) (by rfl) (Nat.le_of_ble_eq_true rfl) (Nat.le_of_ble_eq_true rfl) rfl (by rfl) ?_
        refine w_p (pc1 := 180) (al1 := [(7, .int (-1)), (0, .ref 176), (1, .int (nI (p))), (2, .int (nI (b))), (3, .int (nI (kr))), (4, .int (ii)), (5, .int (nI (f))), (6, .int (nI (n)))]) rfl rfl ?_
        refine w_p (pc1 := 182) rfl rfl ?_
        refine w_p (pc1 := 183) (st1 := .int (-1) :: _) rfl rfl ?_
        refine w_t (a := 230) (b := 186) rfl rfl rfl ?_
        refine w_r rfl rfl rfl (fun _ _ => rfl) rfl ?_
        exact ⟨rfl, ⟨_, Or.inr ⟨g, q1, Or.inl ⟨hx, EDD_S q4 ⟨false, q3⟩⟩⟩, rfl⟩, rfl⟩
      · have hbs := m_260 (L := L) (xs := xs) (t := t) (d := d + 2) (sl := 0) (kd := 1) (tb := nI b) (i := ii) g93 (by omega) g94 (by omega) g95 hX.2.2.2 g75 hF
        have fQ := bs_Q (C := C2) (u := σ.2.1) (D := D) (v := σ.2.2) (f := F) (kd := 1) (tb := nI b) (i := ii)
        have fV := bs_V (C := C2) (u := σ.2.1) (D := D) (v := σ.2.2) (f := F) (kd := 1) (tb := nI b) (i := ii)
        have hto := m_262 (L := L) (xs := xs) (C := bsC C2 σ.2.1 D σ.2.2 F 1 (nI b) ii) (t := t) (d := d + 2) (sl := 0) hF hb (k := kr) (by omega)
        refine w_p (pc1 := 158) rfl rfl ?_
        refine w_m0 (pc1 := 161) (st1 := .int 0 :: _) rfl rfl (h_gIe (j := 74) rfl rfl rfl rfl rfl (q3)) rfl ?_
        refine w_t (a := 170) (b := 164) rfl rfl rfl ?_
        refine w_p (pc1 := 171) rfl rfl ?_
        refine w_p (pc1 := 172) (st1 := .int 1 :: _) rfl rfl ?_
        refine w_p (pc1 := 173) rfl rfl ?_
        refine w_p (pc1 := 175) rfl rfl ?_
        refine w_je (pc1 := 178) (vs := [.ref 176, .int 1, .int (nI (b)), .int (ii)]) (rest := []) (st1 := [.int (nI (F))]) (hbs) rfl rfl rfl (fun _ _ => rfl) rfl (by exact cl_v my_260 rfl rfl rfl (Nat.le_of_ble_eq_true rfl) rfl (MH_obj rfl rfl) rfl (by decide) rfl rfl) (by rfl) (Nat.le_of_ble_eq_true rfl) (Nat.le_of_ble_eq_true rfl) rfl (by rfl) ?_
        refine w_p (pc1 := 180) (al1 := [(7, .int (nI (F))), (0, .ref 176), (1, .int (nI (p))), (2, .int (nI (b))), (3, .int (nI (kr))), (4, .int (ii)), (5, .int (nI (f))), (6, .int (nI (n)))]) rfl rfl ?_
        refine w_p (pc1 := 182) rfl rfl ?_
        refine w_p (pc1 := 183) (st1 := .int (-1) :: _) rfl rfl ?_
        refine w_f (a := 230) (b := 186) (cb_eq_f (by exact nK_m1 (by omega))) rfl rfl ?_
        refine w_p (pc1 := 187) rfl rfl ?_
        refine w_p (pc1 := 189) rfl rfl ?_
        refine w_p (pc1 := 190) rfl rfl ?_
        refine w_p (pc1 := 191) rfl rfl ?_
        refine w_ji (pc1 := 194) (vs := [.ref 176, .int (nI (F)), .int (nI (b)), .int (nI (kr))]) (rest := []) (hto) rfl rfl rfl (fun _ _ => rfl) rfl (by exact cl_v my_262 rfl rfl rfl (Nat.le_of_ble_eq_true rfl) rfl (MH_obj rfl rfl) rfl (by decide) rfl rfl) (by rfl) (Nat.le_of_ble_eq_true rfl) (Nat.le_of_ble_eq_true rfl) rfl (fun v h m hq => ?_) (fun _ _ _ e => e.elim)
        obtain ⟨rfl, ⟨C3, ⟨o1, o2⟩, rfl⟩, rfl⟩ := hq
        refine w_p (pc1 := 195) (st1 := .int 0 :: _) rfl rfl ?_
        refine w_p (pc1 := 197) (al1 := [(8, .int 0), (7, .int (nI (F))), (0, .ref 176), (1, .int (nI (p))), (2, .int (nI (b))), (3, .int (nI (kr))), (4, .int (ii)), (5, .int (nI (f))), (6, .int (nI (n)))]) rfl rfl ?_
        have fQ2 : ∀ k j, k = 138 → (bsC C2 σ.2.1 D σ.2.2 F 1 (nI b) ii).2.1 k j = C2.2.1 k j := fun _ _ _ => rfl
        refine Wd_q (lp_264f (C0 := C3) hF 6 0 C3 rfl frO_r (fun _ => rfl) (fun j hj => absurd hj (by omega))) (fun v0 h m hq => ?_) (fun _ _ _ e => e)
        obtain ⟨p1, ⟨C4, ⟨p2, p3, p4⟩, p5⟩, p6⟩ := hq
        have o3 := frO_t o1 p2
        have hc := bs_C (C := C2) (u := σ.2.1) (D := D) (v := σ.2.2) (f := F) (kd := 1) (tb := nI b) (i := ii)
        have hs := bs_S (C := C2) (u := σ.2.1) (D := D) (v := σ.2.2) (f := F) (kd := 1) (tb := nI b) (i := ii)
        refine ⟨p1, ⟨C4, Or.inr ⟨g, q1, Or.inr ⟨by omega, by omega, SFM_O o3 hs, CNT_O o3 hc g89 q3, ⟨fun c hc => ?_, fun c hc => ?_⟩, frQ_t (frS_Q q4) (frQ_t fQ (frO_Q o3)), frV_t (frS_V q4) (frV_t fV (frO_V o3))⟩⟩, p5⟩, p6⟩
        · rw [p4 c (by omega), o1.2.1 138 c (by omega), fQ2 138 c (by omega)]
          exact q2 c hc
        · rw [p3, (o2 c (by omega)).1, fV.2.2.2, q4.2.1 116 _ (by decide) (by decide)]
          exact (g4 kr r hr).2 c hc
    · have g89 : C2.1 76 89 = 0 := (q3.1 76 89 (by omega)).trans h89
      refine w_p (pc1 := 158) rfl rfl ?_
      refine w_m0 (pc1 := 161) (st1 := .int 1 :: _) rfl rfl (h_gIe (j := 74) rfl rfl rfl rfl rfl (q2)) rfl ?_
      refine w_f (a := 170) (b := 164) rfl rfl rfl ?_
      refine w_p (pc1 := 165) rfl rfl ?_
      refine w_p (pc1 := 166) (st1 := .int 4 :: _) rfl rfl ?_
      refine w_je (pc1 := 169) (vs := [.ref 176, .int 4]) (rest := []) (st1 := []) (m_256 (d := d + 3) (sl := 0) g89) rfl rfl rfl (fun _ _ => rfl) rfl (by exact cl_v my_256 rfl rfl rfl (Nat.le_of_ble_eq_true rfl) rfl (MH_obj rfl rfl) rfl (by decide) rfl rfl) (by rfl) (Nat.le_of_ble_eq_true rfl) (Nat.le_of_ble_eq_true rfl) rfl (by rfl) ?_
      refine w_r rfl rfl rfl (fun _ _ => rfl) rfl ?_
      exact ⟨rfl, ⟨_, Or.inl ⟨q1, EDD_S q3 ⟨true, q2⟩⟩, rfl⟩, rfl⟩
  cases hwh : aWh a with
  | none =>
    rw [hwh] at a3
    refine w_p (pc1 := 1) rfl rfl ?_
    refine w_m0 (pc1 := 4) rfl rfl (h_gC rfl rfl rfl rfl) rfl ?_
    refine w_p (pc1 := 5) rfl rfl ?_
    refine w_m0 (pc1 := 6) (st1 := .int (-1) :: _) rfl rfl (n_ile (e := p) rfl rfl rfl (by omega) (a3.1)) rfl ?_
    refine w_p (pc1 := 7) (st1 := .int (-1) :: _) rfl rfl ?_
    refine w_f (a := 19) (b := 10) rfl rfl rfl ?_
    refine w_p (pc1 := 11) rfl rfl ?_
    refine w_m0 (pc1 := 14) rfl rfl (h_gC rfl rfl rfl rfl) rfl ?_
    refine w_p (pc1 := 15) rfl rfl ?_
    refine w_m0 (pc1 := 16) (st1 := .int (nI (n)) :: _) rfl rfl (n_ile (e := p) rfl rfl rfl (by omega) (a3.2)) rfl ?_
    refine w_p (pc1 := 25) rfl rfl ?_
    refine w_p (pc1 := 27) (al1 := [(6, .int (nI (n))), (0, .ref 176), (1, .int (nI (p))), (2, .int (nI (b))), (3, .int (nI (kr))), (4, .int (ii)), (5, .int (nI (f)))]) rfl rfl ?_
    exact HH
  | some O2 =>
    rw [hwh] at a3
    refine w_p (pc1 := 1) rfl rfl ?_
    refine w_m0 (pc1 := 4) rfl rfl (h_gC rfl rfl rfl rfl) rfl ?_
    refine w_p (pc1 := 5) rfl rfl ?_
    refine w_m0 (pc1 := 6) (st1 := .int (nI (n)) :: _) rfl rfl (n_ile (e := p) rfl rfl rfl (by omega) (a3.1)) rfl ?_
    refine w_p (pc1 := 7) (st1 := .int (-1) :: _) rfl rfl ?_
    refine w_t (a := 19) (b := 10) (cb_ne_t (by exact nK_m1 (by omega))) rfl rfl ?_
    refine w_p (pc1 := 20) rfl rfl ?_
    refine w_m0 (pc1 := 23) rfl rfl (h_gC rfl rfl rfl rfl) rfl ?_
    refine w_p (pc1 := 24) rfl rfl ?_
    refine w_m0 (pc1 := 25) (st1 := .int (nI (n)) :: _) rfl rfl (n_ile (e := p) rfl rfl rfl (by omega) (a3.1)) rfl ?_
    refine w_p (pc1 := 27) (al1 := [(6, .int (nI (n))), (0, .ref 176), (1, .int (nI (p))), (2, .int (nI (b))), (3, .int (nI (kr))), (4, .int (ii)), (5, .int (nI (f)))]) rfl rfl ?_
    exact HH
end ME5
