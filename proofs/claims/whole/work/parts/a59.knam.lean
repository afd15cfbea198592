
/-! ONE SIDE: a table is read, 2: a new rule is begun; names of columns -/
def rNam (K : tv2) (sc : sc_T) (b : Nat) : Nat → List Nat → Nat → pz_T (List Nat × Nat)
  | 0, _, _ => .inl (0, 0)
  | f + 1, acc, i => pb (rCol K sc b acc i) (fun c => if K.1 c.2 = 48 then pb (rNam K sc b f (acc ++ [c.1]) (c.2 + 1)) (fun y => .inr (c.1 :: y.1, y.2)) else .inr ([c.1], c.2))
section NAM
variable {L : Nat} {xs : Nat → Int32} {B : Nat → Nat} {n m : Nat} {C C' C0 C1 : co_T} {t t0 t1 : ab_H} {d sl sl0 sl1 i i0 i1 j b e ti k k0 kc ks w c : Nat} {sc : sc_T} {row : Option Nat} {tg : Option (Nat × Nat)} {nl : Option Nat} {kd0 tb0 : Int32} {P : Option Value → ab_H → Nat → Prop} {X : Nat → ab_H → Nat → Prop} {cs : List Nat} {ss : List (Option (List op_T))} {E : fe_T} {tr : Nat → Option tr_T} {ru : Nat → Option ru_T}
set_option maxRecDepth 100000 in
theorem ruN_s (h : ruN ru ≠ -1) : ∃ s, ruN ru = nI s ∧ s < 24 ∧ ru s = none := by
  rcases fnd_b (fun j => (ru j).isNone) 24 0 with e | ⟨s, e, _, h2, h3⟩
  · exact absurd e h
  · exact ⟨s, e, by omega, Option.isNone_iff_eq_none.mp h3⟩
set_option maxRecDepth 100000 in
theorem m_48 (S : tkS B n m C i) (h1 : kd B n i ≠ 1) (h2 : kd B n i ≠ 2) (hb : C.1 20 10 = nI b) (hR : RLK C t ru) : Wd L xs (d + 7) y_48 (0, [(0, .ref 120), (1, .int kd0)], [], MH C t, sl) (fun v h q => ∃ s, (ruN ru = nI s ∧ s < 24 ∧ ru s = none) ∧ some (.ref (241 + t.length)) = v ∧ (∃ t', (RP t' t.length (t.length + 1) (t.length + 1 + 1) kd0 (nI b) (fun _ => 0) (fun _ => 0) 0 (-1) 0 0 0 .null ∧ t'.length = t.length + 3 ∧ tlE t t') ∧ MH (sQ (nxT B n C i) 11 s (some (241 + t.length))) t' = h) ∧ sl + 22 = q) (fun a h q => ruN ru = -1 ∧ Xk 12 (rfC B n C i 6) t sl a h q) := by
  have h49 := m_49 (L := L) (xs := xs) (C := C) (t := t) (d := d + 6) (sl := 0)
  rw [ruN_K hR] at h49
  by_cases hf : ruN ru = -1
  · skip
    refine w_p (pc1 := 1) rfl rfl ?_
    refine w_m0 (pc1 := 4) rfl rfl (h_gC rfl rfl rfl rfl) rfl ?_
    refine w_je (pc1 := 7) (vs := [.ref 106]) (rest := []) (st1 := [.int (ruN ru)]) (h49) rfl rfl rfl (fun _ _ => rfl) rfl (by exact cl_v my_49 rfl rfl rfl (Nat.le_of_ble_eq_true rfl) rfl (MH_obj rfl rfl) rfl (by decide) rfl rfl) (by rfl) (Nat.le_of_ble_eq_true rfl) (Nat.le_of_ble_eq_true rfl) rfl (by rfl) ?_
    refine w_p (pc1 := 8) (al1 := [(2, .int (ruN ru)), (0, .ref 120), (1, .int (kd0))]) rfl rfl ?_
    refine w_p (pc1 := 9) rfl rfl ?_
    refine w_p (pc1 := 10) (st1 := .int (-1) :: _) rfl rfl ?_
    refine w_f (a := 22) (b := 13) (cb_ne_f (by exact hf)) rfl rfl ?_
    refine w_p (pc1 := 14) rfl rfl ?_
    refine w_m0 (pc1 := 17) rfl rfl (h_gC rfl rfl rfl rfl) rfl ?_
    refine w_p (pc1 := 19) (st1 := .int 6 :: _) rfl rfl ?_
    refine w_ji (pc1 := 22) (vs := [.ref 101, .int 6]) (rest := []) (m_31 (d := d) (sl := 0) (c := 6) S) rfl rfl rfl (fun _ _ => rfl) rfl (by exact cl_v my_31 rfl rfl rfl (Nat.le_of_ble_eq_true rfl) rfl (MH_obj rfl rfl) rfl (by decide) rfl rfl) (by rfl) (Nat.le_of_ble_eq_true rfl) (Nat.le_of_ble_eq_true rfl) rfl (fun v h1 d1 hq => ?_) (fun a h1 d1 hq => ?_)
    · exact hq.elim
    · rcases hq with ⟨ha, hh, hn⟩
      · subst ha; subst hh; subst hn
        refine Or.inl ⟨ch_new (by decide) rfl, ?_⟩
        refine ⟨hf, rfl, ?_, rfl⟩
        with_reducible rfl
  · obtain ⟨s, e, hs, hn⟩ := ruN_s hf
    rw [e] at h49
    have hb1 : (nxT B n C i).1 20 10 = nI b := (nxT_fr.1 20 10 (by omega)).trans hb
    refine w_p (pc1 := 1) rfl rfl ?_
    refine w_m0 (pc1 := 4) rfl rfl (h_gC rfl rfl rfl rfl) rfl ?_
    refine w_je (pc1 := 7) (vs := [.ref 106]) (rest := []) (st1 := [.int (nI (s))]) (h49) rfl rfl rfl (fun _ _ => rfl) rfl (by exact cl_v my_49 rfl rfl rfl (Nat.le_of_ble_eq_true rfl) rfl (MH_obj rfl rfl) rfl (by decide) rfl rfl) (by rfl) (Nat.le_of_ble_eq_true rfl) (Nat.le_of_ble_eq_true rfl) rfl (by rfl) ?_
    refine w_p (pc1 := 8) (al1 := [(2, .int (nI (s))), (0, .ref 120), (1, .int (kd0))]) rfl rfl ?_
    refine w_p (pc1 := 9) rfl rfl ?_
    refine w_p (pc1 := 10) (st1 := .int (-1) :: _) rfl rfl ?_
    refine w_t (a := 22) (b := 13) (cb_ne_t (by exact nK_m1 (by omega))) rfl rfl ?_
    refine w_p (pc1 := 23) rfl rfl ?_
    refine w_m0 (pc1 := 26) rfl rfl (h_gC rfl rfl rfl rfl) rfl ?_
    refine w_je (pc1 := 29) (vs := [.ref 101]) (rest := []) (st1 := []) (m_21s (d := d + 6) (sl := 0) S h1 h2) rfl rfl rfl (fun _ _ => rfl) rfl (by exact cl_v my_21 rfl rfl rfl (Nat.le_of_ble_eq_true rfl) rfl (MH_obj rfl rfl) rfl (by decide) rfl rfl) (by rfl) (Nat.le_of_ble_eq_true rfl) (Nat.le_of_ble_eq_true rfl) rfl (by rfl) ?_
    refine w_p (pc1 := 30) rfl rfl ?_
    refine w_m0 (pc1 := 33) rfl rfl (h_gC rfl rfl rfl rfl) rfl ?_
    refine w_p (pc1 := 34) rfl rfl ?_
    refine w_p (pc1 := 35) rfl rfl ?_
    refine w_p (pc1 := 36) rfl rfl ?_
    refine w_m0 (pc1 := 39) (st1 := .int (nI (b)) :: _) rfl rfl (h_gIe (j := 10) rfl rfl rfl rfl rfl (hb1)) rfl ?_
    refine w_ji (pc1 := 42) (vs := [.ref 106, .int (nI (s)), .int (kd0), .int (nI (b))]) (rest := []) (m_50 (d := d + 4) (sl := 0) hs) rfl rfl rfl (fun _ _ => rfl) rfl (by exact cl_v my_50 rfl rfl rfl (Nat.le_of_ble_eq_true rfl) rfl (MH_obj rfl rfl) rfl (by decide) rfl rfl) (by rfl) (Nat.le_of_ble_eq_true rfl) (Nat.le_of_ble_eq_true rfl) rfl (fun v h q hq => ?_) (fun _ _ _ e => e.elim)
    obtain ⟨rfl, ⟨t3, g3, rfl⟩, rfl⟩ := hq
    refine w_r rfl rfl rfl (fun _ _ => rfl) rfl ?_
    refine ⟨s, ⟨e, hs, hn⟩, rfl, ⟨t3, g3, ?_⟩, by omega⟩
    with_reducible rfl
/-! the names that were read so far -/
def NMs (B : Nat → Nat) (n m : Nat) (C0 : co_T) (t0 : ab_H) (i0 sl0 kc w : Nat) (cs : List Nat) (i : Nat) (C : co_T) (t : ab_H) (sl : Nat) : Prop := (tkS B n m C i ∧ frN C0 C) ∧ (∃ fc, t[kc]? = some (.inl (0, 6, .inl fc)) ∧ arI fc 0 cs) ∧ (cs.length ≤ 6 ∧ (∀ x, x ∈ cs → x < w) ∧ cs.Nodup) ∧ ((∀ j x, j ≠ kc → t0[j]? = some x → t[j]? = some x) ∧ t.length = t0.length) ∧ sl = sl0 ∧ i0 ≤ i
set_option maxRecDepth 100000 in
theorem lp_53 (hS : SCK C0 sc) (hb : b < 6) (hw : w = sc.2.1 b) : ∀ (f : Nat) (cs : List Nat) (i : Nat) (C : co_T) (t : ab_H) (sl : Nat), cs.length + f = 7 → NMs B n m C0 t0 i0 sl0 kc w cs i C t sl → (∀ cs' i' C' t' sl', rNam (tkP B n) sc b f cs i = .inr (cs', i') → NMs B n m C0 t0 i0 sl0 kc w (cs ++ cs') i' C' t' sl' → P (some (.int (nI (cs ++ cs').length))) (MH C' t') sl') → (∀ c j C' t' a h q, rNam (tkP B n) sc b f cs i = .inl (c, j) → frN C0 C' → (∀ j x, j ≠ kc → t0[j]? = some x → t'[j]? = some x) ∧ t'.length = t0.length → i0 ≤ j → Xk 12 (rfC B n C' j c) t' sl0 a h q → X a h q) → Wd L xs (d + 8) y_53 (8, [(5, .int (nI (cs.length))), (4, .int 1), (3, .int (nI (cs.length))), (0, .ref 120), (1, .int (nI (b))), (2, .ref (241 + kc))], [], MH C t, sl) P X
  | 0, cs, i, C, t, sl, hf, A, HN, HX => absurd A.2.2.1.1 (by omega)
  | f + 1, cs, i, C, t, sl, hf, A, HN, HX => by
    obtain ⟨⟨S, hF⟩, ⟨fc, hc, ha⟩, ⟨D1, D2, D3⟩, ⟨B1, B2⟩, hsl, B3⟩ := A
    have hS1 := SCK_D hS (frD_N hF)
    have hw6 : w ≤ 6 := by rw [hw]; exact (hS.2 b hb).2.1
    have h54 := m_54 (L := L) (xs := xs) (d := d) (sl := 0) (acc := cs) S hS1 hb hc ha D1 (fun x hx => by have := D2 x hx; omega)
    have er0 : rNam (tkP B n) sc b (f + 1) cs i = pb (rCol (tkP B n) sc b cs i) (fun c => if (tkP B n).1 c.2 = 48 then pb (rNam (tkP B n) sc b f (cs ++ [c.1]) (c.2 + 1)) (fun y => .inr (c.1 :: y.1, y.2)) else .inr ([c.1], c.2)) := rfl
    rw [er0] at HN HX
    by_cases h6 : cs.length = 6
    · skip
      refine w_p (pc1 := 10) rfl rfl ?_
      refine w_p (pc1 := 11) rfl rfl ?_
      refine w_m0 (pc1 := 12) (st1 := .int (nI (6)) :: _) rfl rfl (x_ln (k := kc) hc (by decide)) rfl ?_
      refine w_t (a := 53) (b := 15) (bN_ge_t (a := cs.length) (b := 6) (by omega) (by omega) (by omega)) rfl rfl ?_
      refine w_p (pc1 := 55) rfl rfl ?_
      refine w_f (a := 66) (b := 58) rfl rfl rfl ?_
      refine w_p (pc1 := 59) rfl rfl ?_
      refine w_p (pc1 := 60) rfl rfl ?_
      refine w_p (pc1 := 61) rfl rfl ?_
      refine w_p (pc1 := 62) rfl rfl ?_
      refine w_ji (pc1 := 65) (vs := [.ref 120, .int (nI (b)), .ref (241 + kc), .int (nI (cs.length))]) (rest := []) (h54) rfl rfl rfl (fun _ _ => rfl) rfl (by exact cl_v my_54 rfl rfl rfl (Nat.le_of_ble_eq_true rfl) rfl (MH_obj rfl rfl) rfl (by decide) rfl rfl) (by rfl) (Nat.le_of_ble_eq_true rfl) (Nat.le_of_ble_eq_true rfl) rfl (fun v h1 d1 hq => ?_) (fun a h1 d1 hq => ?_)
      · obtain ⟨c, i1, C1, ⟨r1, r2, r3, r4⟩, hh, hn⟩ := hq
        exfalso
        have hc6 : c < w := by rw [hw]; exact r2.2.1
        have := php w (cs ++ [c]) (fun x hx => by
          rcases List.mem_append.mp hx with h | h
          · exact D2 x h
          · rcases List.mem_cons.mp h with rfl | h
            · exact hc6
            · cases h) (nd_s D3 r2.2.2)
        rw [len_s] at this
        omega
      · rcases hq with ⟨c, j, ⟨x1, x2⟩, ha, hh, hn⟩
        · subst ha; subst hh; subst hn
          refine Or.inl ⟨ch_new (by decide) rfl, ?_⟩
          refine HX c j C t _ _ _ (pb_l x1) hF ⟨B1, B2⟩ (by rw [rCol_j x1]; exact B3) ⟨rfl, ?_, by omega⟩
          with_reducible rfl
    · skip
      refine w_p (pc1 := 10) rfl rfl ?_
      refine w_p (pc1 := 11) rfl rfl ?_
      refine w_m0 (pc1 := 12) (st1 := .int (nI (6)) :: _) rfl rfl (x_ln (k := kc) hc (by decide)) rfl ?_
      refine w_f (a := 53) (b := 15) (bN_ge_f (a := cs.length) (b := 6) (by omega) (by omega) (by omega)) rfl rfl ?_
      refine w_p (pc1 := 17) rfl rfl ?_
      refine w_f (a := 53) (b := 20) rfl rfl rfl ?_
      refine w_p (pc1 := 21) rfl rfl ?_
      refine w_p (pc1 := 23) rfl rfl ?_
      refine w_p (pc1 := 24) rfl rfl ?_
      refine w_p (pc1 := 25) rfl rfl ?_
      refine w_p (pc1 := 26) rfl rfl ?_
      refine w_p (pc1 := 28) rfl rfl ?_
      refine w_ji (pc1 := 31) (vs := [.ref 120, .int (nI (b)), .ref (241 + kc), .int (nI (cs.length))]) (rest := [.int (nI (cs.length)), .ref (241 + kc)]) (h54) rfl rfl rfl (fun _ _ => rfl) rfl (by exact cl_v my_54 rfl rfl rfl (Nat.le_of_ble_eq_true rfl) rfl (MH_obj rfl rfl) rfl (by decide) rfl rfl) (by rfl) (Nat.le_of_ble_eq_true rfl) (Nat.le_of_ble_eq_true rfl) rfl (fun v h1 d1 hq => ?_) (fun a h1 d1 hq => ?_)
      · obtain ⟨c, i1, C1, ⟨r1, ⟨hv, r2, r3⟩, r4, r5⟩, hh, hn⟩ := hq
        subst hv; subst hh; subst hn
        obtain rfl := rCol_i r1
        rw [pb_r r1] at HN HX
        have hF1 := frN_t' hF r5
        obtain ⟨t1, e1, g1, p1, q1⟩ := tl_st hc (.inl (0, 6, .inl (upd fc cs.length (nI c))))
        have A2 : arI (upd fc cs.length (nI c)) 0 (cs ++ [c]) := fun j x hj => by
          rw [Nat.zero_add, upd_at]
          by_cases e : j < cs.length
          · rw [if_neg (by omega)]
            rw [List.getElem?_append_left e] at hj
            have := ha j x hj
            rw [Nat.zero_add] at this
            exact this
          · have hjl := get_lt hj
            rw [len_s] at hjl
            obtain rfl : j = cs.length := by omega
            rw [List.getElem?_append_right (Nat.le_refl _), Nat.sub_self] at hj
            cases hj
            rw [if_pos rfl]
        have D2' : ∀ x, x ∈ cs ++ [c] → x < w := fun x hx => by
          rcases List.mem_append.mp hx with h | h
          · exact D2 x h
          · rcases List.mem_cons.mp h with rfl | h
            · rw [hw]; exact r2
            · cases h
        have hmid : NMs B n m C0 t0 i0 sl0 kc w (cs ++ [c]) (i + 1) C1 t1 (sl + 0 + 0) := ⟨⟨r4, hF1⟩, ⟨_, g1, A2⟩, ⟨by rw [len_s]; omega, D2', nd_s D3 r3⟩, ⟨fun j x h1 h2 => p1 _ _ h1 (B1 j x h1 h2), by omega⟩, by omega, by omega⟩
        by_cases h48 : kd B n (i + 1) = 48
        · have h48' : (tkP B n).1 (i + 1) = 48 := h48
          rw [if_pos h48'] at HN HX
          refine w_m0 (pc1 := 32) rfl rfl (x_is (k := kc) (e := cs.length) hc (by omega) (by omega)) rfl ?_
          rw [e1]
          refine w_iinc (pc1 := 35) (u := nI (cs.length)) (z := nI (cs.length + 1)) (al1 := [(3, .int (nI (cs.length + 1))), (5, .int (nI (cs.length))), (4, .int 1), (0, .ref 120), (1, .int (nI (b))), (2, .ref (241 + kc))]) rfl rfl rfl nK_1 rfl rfl ?_
          refine w_p (pc1 := 36) rfl rfl ?_
          refine w_m0 (pc1 := 39) rfl rfl (h_gC rfl rfl rfl rfl) rfl ?_
          refine w_m0 (pc1 := 42) (st1 := .ref 48 :: _) rfl rfl rfl rfl ?_
          refine w_je (pc1 := 45) (vs := [.ref 101, .ref 48]) (rest := []) (st1 := [.int 1]) (m_44y (d := d + 6) (sl := 0) r4 (by decide) h48 (by decide) (by decide)) rfl rfl rfl (fun _ _ => rfl) rfl (by exact cl_v my_44 rfl rfl rfl (Nat.le_of_ble_eq_true rfl) rfl (MH_obj rfl rfl) rfl (by decide) rfl rfl) (by rfl) (Nat.le_of_ble_eq_true rfl) (Nat.le_of_ble_eq_true rfl) rfl (by rfl) ?_
          refine w_p (pc1 := 47) (al1 := [(4, .int 1), (3, .int (nI (cs.length + 1))), (5, .int (nI (cs.length))), (0, .ref 120), (1, .int (nI (b))), (2, .ref (241 + kc))]) rfl rfl ?_
          refine w_iinc (pc1 := 50) (u := nI (cs.length)) (z := nI (cs.length + 1)) (al1 := [(5, .int (nI (cs.length + 1))), (4, .int 1), (3, .int (nI (cs.length + 1))), (0, .ref 120), (1, .int (nI (b))), (2, .ref (241 + kc))]) rfl rfl rfl nK_1 rfl rfl ?_
          refine w_p (pc1 := 8) rfl rfl ?_
          have IH := lp_53 hS hb hw f (cs ++ [c]) (i + 1 + 1) (nxT B n C1 (i + 1)) t1 (sl + 0 + 0) (by rw [len_s]; omega) ⟨⟨nxT_S r4 (by rw [h48]; decide) (by rw [h48]; decide), frN_t' hF1 nxT_fr⟩, hmid.2.1, hmid.2.2.1, hmid.2.2.2.1, by omega, by omega⟩ (fun cs' i' C' t' sl' e A' => ?_) (fun c2 j C' t' a h q e x1 x2 x3 x4 => HX c2 j C' t' a h q (pb_l e) x1 x2 x3 x4)
          · rw [len_s] at IH
            exact IH
          · have := HN (c :: cs') i' C' t' sl' (pb_r e)
            rw [List.append_cons cs c cs'] at this
            exact this A'
        · have h48' : ¬ ((tkP B n).1 (i + 1) = 48) := h48
          rw [if_neg h48'] at HN
          have hfin := HN [c] (i + 1) C1 t1 _ rfl hmid
          rw [len_s] at hfin
          refine w_m0 (pc1 := 32) rfl rfl (x_is (k := kc) (e := cs.length) hc (by omega) (by omega)) rfl ?_
          rw [e1]
          refine w_iinc (pc1 := 35) (u := nI (cs.length)) (z := nI (cs.length + 1)) (al1 := [(3, .int (nI (cs.length + 1))), (5, .int (nI (cs.length))), (4, .int 1), (0, .ref 120), (1, .int (nI (b))), (2, .ref (241 + kc))]) rfl rfl rfl nK_1 rfl rfl ?_
          refine w_p (pc1 := 36) rfl rfl ?_
          refine w_m0 (pc1 := 39) rfl rfl (h_gC rfl rfl rfl rfl) rfl ?_
          refine w_m0 (pc1 := 42) (st1 := .ref 48 :: _) rfl rfl rfl rfl ?_
          refine w_je (pc1 := 45) (vs := [.ref 101, .ref 48]) (rest := []) (st1 := [.int 0]) (m_44n (d := d + 7) (sl := 0) r4 (by decide) h48) rfl rfl rfl (fun _ _ => rfl) rfl (by exact cl_v my_44 rfl rfl rfl (Nat.le_of_ble_eq_true rfl) rfl (MH_obj rfl rfl) rfl (by decide) rfl rfl) (by rfl) (Nat.le_of_ble_eq_true rfl) (Nat.le_of_ble_eq_true rfl) rfl (by rfl) ?_
          refine w_p (pc1 := 47) (al1 := [(4, .int 0), (3, .int (nI (cs.length + 1))), (5, .int (nI (cs.length))), (0, .ref 120), (1, .int (nI (b))), (2, .ref (241 + kc))]) rfl rfl ?_
          refine w_iinc (pc1 := 50) (u := nI (cs.length)) (z := nI (cs.length + 1)) (al1 := [(5, .int (nI (cs.length + 1))), (4, .int 0), (3, .int (nI (cs.length + 1))), (0, .ref 120), (1, .int (nI (b))), (2, .ref (241 + kc))]) rfl rfl rfl nK_1 rfl rfl ?_
          refine w_p (pc1 := 8) rfl rfl ?_
          refine w_p (pc1 := 10) rfl rfl ?_
          refine w_p (pc1 := 11) rfl rfl ?_
          refine w_m0 (pc1 := 12) (st1 := .int (nI (6)) :: _) rfl rfl (x_ln (k := kc) g1 (by decide)) rfl ?_
          refine w_b (a := 53) (b := 15) rfl rfl (fun c12 => ?_) (fun c12 => ?_)
          · replace c12 := cN_ge_t (a := cs.length + 1) (b := 6) (by omega) (by omega) c12
            refine w_p (pc1 := 55) rfl rfl ?_
            refine w_t (a := 66) (b := 58) rfl rfl rfl ?_
            refine w_p (pc1 := 67) rfl rfl ?_
            refine w_r rfl rfl rfl (fun _ _ => rfl) cr_int ?_
            exact hfin
          · replace c12 := cN_ge_f (a := cs.length + 1) (b := 6) (by omega) (by omega) c12
            refine w_p (pc1 := 17) rfl rfl ?_
            refine w_t (a := 53) (b := 20) rfl rfl rfl ?_
            refine w_p (pc1 := 55) rfl rfl ?_
            refine w_t (a := 66) (b := 58) rfl rfl rfl ?_
            refine w_p (pc1 := 67) rfl rfl ?_
            refine w_r rfl rfl rfl (fun _ _ => rfl) cr_int ?_
            exact hfin
      · rcases hq with ⟨c, j, ⟨x1, x2⟩, ha, hh, hn⟩
        · subst ha; subst hh; subst hn
          refine Or.inl ⟨ch_new (by decide) rfl, ?_⟩
          refine HX c j C t _ _ _ (pb_l x1) hF ⟨B1, B2⟩ (by rw [rCol_j x1]; exact B3) ⟨rfl, ?_, by omega⟩
          with_reducible rfl
end NAM
