
/-! ONE SIDE: a change is read, 4: what an update sets -/
set_option maxRecDepth 100000 in
theorem php : ∀ (n : Nat) (l : List Nat), (∀ x, x ∈ l → x < n) → l.Nodup → l.length ≤ n
  | 0, l, h, _ => by
    cases l with
    | nil => exact Nat.le_refl _
    | cons a l => exact absurd (h a (List.mem_cons_self ..)) (by omega)
  | n + 1, l, h, hd => by
    by_cases hn : n ∈ l
    · have h1 := php n (l.erase n) (fun x hx => by
        have := (hd.mem_erase_iff).mp hx
        have := h x this.2
        omega) (hd.erase n)
      rw [List.length_erase_of_mem hn] at h1
      omega
    · have h1 := php n l (fun x hx => by
        have h2 := h x hx
        rcases Nat.lt_or_ge x n with h3 | h3
        · exact h3
        · obtain rfl : x = n := by omega
          exact absurd hx hn) hd
      omega
/-! a formula whose cells lie behind a place -/
def foN (lo : Nat) (t : ab_H) (c : Int32) (v : Value) : Option (List op_T) → Prop
  | none => v = .null
  | some O => ∃ k s, v = .ref (241 + k) ∧ lo ≤ k ∧ FO t k (k + 1) (k + 2) (k + 3) O c s ∧ O.length ≤ 600
set_option maxRecDepth 100000 in
theorem foN_K {lo : Nat} {t : ab_H} {c : Int32} {v : Value} : ∀ {q : Option (List op_T)}, foN lo t c v q → foK t c v q
  | none, e => e
  | some _, ⟨k, s, e, _, F, h⟩ => ⟨k, _, _, _, s, e, F, h⟩
set_option maxRecDepth 100000 in
theorem FO_j {t : ab_H} {k j : Nat} {O : List op_T} {c : Int32} {s : Nat → Int64} {x : ab_C} (F : FO t k (k + 1) (k + 2) (k + 3) O c s) (h : j < k) : FO (t.set j x) k (k + 1) (k + 2) (k + 3) O c s := by
  obtain ⟨h1, ⟨f, h2, h3⟩, ⟨g, h4, h5⟩, h6⟩ := F
  exact ⟨tl_set h1 (by omega), ⟨f, tl_set h2 (by omega), h3⟩, ⟨g, tl_set h4 (by omega), h5⟩, tl_set h6 (by omega)⟩
set_option maxRecDepth 100000 in
theorem foN_s {lo : Nat} {t : ab_H} {c : Int32} {v : Value} {j : Nat} {x : ab_C} (hj : j < lo) : ∀ {q : Option (List op_T)}, foN lo t c v q → foN lo (t.set j x) c v q
  | none, e => e
  | some _, ⟨k, s, e, h1, F, h⟩ => ⟨k, s, e, h1, FO_j F (by omega), h⟩
set_option maxRecDepth 100000 in
theorem foN_e {lo : Nat} {t t' : ab_H} {c : Int32} {v : Value} (h : tlE t t') : ∀ {q : Option (List op_T)}, foN lo t c v q → foN lo t' c v q
  | none, e => e
  | some _, ⟨k, s, e, h1, F, h2⟩ => ⟨k, s, e, h1, FO_e h F, h2⟩
/-! what was set so far -/
def SEs (B : Nat → Nat) (n m : Nat) (C0 : co_T) (t0 : ab_H) (i0 sl0 k0 kc ks w : Nat) (kd0 tb0 : Int32) (cs : List Nat) (ss : List (Option (List op_T))) (i : Nat) (nl : Option Nat) (C : co_T) (t : ab_H) (sl : Nat) : Prop := (tkS B n m C i ∧ lfK (C.1 21 6) nl ∧ frF C0 C) ∧ (∃ fc fs, AP t k0 kc ks kd0 tb0 fc fs (nI ss.length) .null 0 ∧ arI fc 0 cs ∧ (∀ j s, ss[j]? = some s → foN t0.length t 0 (va_rf (fs j)) s) ∧ (∀ j, ss.length ≤ j → fs j = none)) ∧ (cs.length = ss.length ∧ ss.length ≤ 6 ∧ (∀ x, x ∈ cs → x < w) ∧ cs.Nodup) ∧ (tlR k0 kc ks i0 i sl0 sl t0 t ∧ 1 ≤ i)
section SET
variable {L : Nat} {xs : Nat → Int32} {B : Nat → Nat} {n m : Nat} {C C' C0 : co_T} {t t0 : ab_H} {d sl sl0 i i0 j b k k0 kc ks w c : Nat} {sc : sc_T} {row : Option Nat} {tg : Option (Nat × Nat)} {nl : Option Nat} {kd0 tb0 : Int32} {P : Option Value → ab_H → Nat → Prop} {X : Nat → ab_H → Nat → Prop} {cs : List Nat} {ss : List (Option (List op_T))} {E : fe_T}
set_option maxRecDepth 100000 in
theorem c87y (S : tkS B n m C i) (hk : kd B n i = 48) {p : Nat} (h6 : p < 6) (H : Wd L xs (d + 57) y_87 (14, [(3, .int (nI (p + 1))), (2, .int 1), (0, .ref 120), (1, .ref (241 + k0))], [], MH (nxT B n C i) t, sl) P X) : Wd L xs (d + 57) y_87 (73, [(3, .int (nI (p))), (2, .int 1), (0, .ref 120), (1, .ref (241 + k0))], [], MH C t, sl) P X := by
  refine w_p (pc1 := 74) rfl rfl ?_
  refine w_m0 (pc1 := 77) rfl rfl (h_gC rfl rfl rfl rfl) rfl ?_
  refine w_m0 (pc1 := 80) (st1 := .ref 48 :: _) rfl rfl rfl rfl ?_
  refine w_je (pc1 := 83) (vs := [.ref 101, .ref 48]) (rest := []) (st1 := [.int 1]) (m_44y (d := d + 55) (sl := 0) S (by decide) hk (by decide) (by decide)) rfl rfl rfl (fun _ _ => rfl) rfl (by exact cl_v my_44 rfl rfl rfl (Nat.le_of_ble_eq_true rfl) rfl (MH_obj rfl rfl) rfl (by decide) rfl rfl) (by rfl) (Nat.le_of_ble_eq_true rfl) (Nat.le_of_ble_eq_true rfl) rfl (by rfl) ?_
  refine w_p (pc1 := 84) (al1 := [(2, .int 1), (3, .int (nI (p))), (0, .ref 120), (1, .ref (241 + k0))]) rfl rfl ?_
  refine w_iinc (pc1 := 87) (u := nI (p)) (z := nI (p + 1)) (al1 := [(3, .int (nI (p + 1))), (2, .int 1), (0, .ref 120), (1, .ref (241 + k0))]) rfl rfl rfl nK_1 rfl rfl ?_
  refine w_p (pc1 := 14) rfl rfl ?_
  exact H
set_option maxRecDepth 100000 in
theorem c87n (S : tkS B n m C i) (hk : kd B n i ≠ 48) {p : Nat} (h6 : p < 6) (H : P none (MH C t) sl) : Wd L xs (d + 57) y_87 (73, [(3, .int (nI (p))), (2, .int 1), (0, .ref 120), (1, .ref (241 + k0))], [], MH C t, sl) P X := by
  have HH : ∀ q, q ≤ 6 → Wd L xs (d + 57) y_87 (90, [(3, .int (nI (q))), (2, .int 0), (0, .ref 120), (1, .ref (241 + k0))], [], MH C t, sl + 0) P X := fun q hq => by
    refine w_p (pc1 := 91) rfl rfl ?_
    refine w_t (a := 111) (b := 94) rfl rfl rfl ?_
    refine w_r rfl rfl rfl (fun _ _ => rfl) rfl ?_
    exact H
  by_cases hp : p + 1 < 6
  · skip
    refine w_p (pc1 := 74) rfl rfl ?_
    refine w_m0 (pc1 := 77) rfl rfl (h_gC rfl rfl rfl rfl) rfl ?_
    refine w_m0 (pc1 := 80) (st1 := .ref 48 :: _) rfl rfl rfl rfl ?_
    refine w_je (pc1 := 83) (vs := [.ref 101, .ref 48]) (rest := []) (st1 := [.int 0]) (m_44n (d := d + 56) (sl := 0) S (by decide) hk) rfl rfl rfl (fun _ _ => rfl) rfl (by exact cl_v my_44 rfl rfl rfl (Nat.le_of_ble_eq_true rfl) rfl (MH_obj rfl rfl) rfl (by decide) rfl rfl) (by rfl) (Nat.le_of_ble_eq_true rfl) (Nat.le_of_ble_eq_true rfl) rfl (by rfl) ?_
    refine w_p (pc1 := 84) (al1 := [(2, .int 0), (3, .int (nI (p))), (0, .ref 120), (1, .ref (241 + k0))]) rfl rfl ?_
    refine w_iinc (pc1 := 87) (u := nI (p)) (z := nI (p + 1)) (al1 := [(3, .int (nI (p + 1))), (2, .int 0), (0, .ref 120), (1, .ref (241 + k0))]) rfl rfl rfl nK_1 rfl rfl ?_
    refine w_p (pc1 := 14) rfl rfl ?_
    refine w_p (pc1 := 15) rfl rfl ?_
    refine w_p (pc1 := 17) (st1 := .int 6 :: _) rfl rfl ?_
    refine w_f (a := 90) (b := 20) (bN_ge_f (a := p + 1) (b := 6) (by omega) (by omega) (by omega)) rfl rfl ?_
    refine w_p (pc1 := 21) rfl rfl ?_
    refine w_t (a := 90) (b := 24) rfl rfl rfl ?_
    exact HH (p + 1) (by omega)
  · skip
    refine w_p (pc1 := 74) rfl rfl ?_
    refine w_m0 (pc1 := 77) rfl rfl (h_gC rfl rfl rfl rfl) rfl ?_
    refine w_m0 (pc1 := 80) (st1 := .ref 48 :: _) rfl rfl rfl rfl ?_
    refine w_je (pc1 := 83) (vs := [.ref 101, .ref 48]) (rest := []) (st1 := [.int 0]) (m_44n (d := d + 56) (sl := 0) S (by decide) hk) rfl rfl rfl (fun _ _ => rfl) rfl (by exact cl_v my_44 rfl rfl rfl (Nat.le_of_ble_eq_true rfl) rfl (MH_obj rfl rfl) rfl (by decide) rfl rfl) (by rfl) (Nat.le_of_ble_eq_true rfl) (Nat.le_of_ble_eq_true rfl) rfl (by rfl) ?_
    refine w_p (pc1 := 84) (al1 := [(2, .int 0), (3, .int (nI (p))), (0, .ref 120), (1, .ref (241 + k0))]) rfl rfl ?_
    refine w_iinc (pc1 := 87) (u := nI (p)) (z := nI (p + 1)) (al1 := [(3, .int (nI (p + 1))), (2, .int 0), (0, .ref 120), (1, .ref (241 + k0))]) rfl rfl rfl nK_1 rfl rfl ?_
    refine w_p (pc1 := 14) rfl rfl ?_
    refine w_p (pc1 := 15) rfl rfl ?_
    refine w_p (pc1 := 17) (st1 := .int 6 :: _) rfl rfl ?_
    refine w_t (a := 90) (b := 20) (bN_ge_t (a := p + 1) (b := 6) (by omega) (by omega) (by omega)) rfl rfl ?_
    exact HH (p + 1) (by omega)
set_option maxRecDepth 100000 in
theorem SEs_N (S : tkS B n m C i) (h1 : kd B n i ≠ 1) (h2 : kd B n i ≠ 2) (A : SEs B n m C0 t0 i0 sl0 k0 kc ks w kd0 (nI b) cs ss i nl C t sl) : SEs B n m C0 t0 i0 sl0 k0 kc ks w kd0 (nI b) cs ss (i + 1) nl (nxT B n C i) t sl := by
  obtain ⟨⟨_, hT2, hT3⟩, hA, hD, ⟨B1, B2, B3, B4, B5⟩, B6⟩ := A
  exact ⟨⟨nxT_S S h1 h2, by rw [nxT_fr.1 21 6 (by omega)]; exact hT2, frF_t hT3 (frF_N nxT_fr)⟩, hA, hD, ⟨B1, by omega, B3, by omega, by omega⟩, by omega⟩
set_option maxRecDepth 100000 in
theorem nd_s {l : List Nat} {c : Nat} (h : l.Nodup) (hc : l.contains c = false) : (l ++ [c]).Nodup := by
  rw [List.nodup_append]
  refine ⟨h, List.nodup_cons.mpr ⟨fun h => (by cases h), List.nodup_nil⟩, fun a ha b hb e => ?_⟩
  rcases List.mem_cons.mp hb with rfl | hb
  · subst e
    rw [List.contains_iff_mem.mpr ha] at hc
    cases hc
  · cases hb
set_option maxRecDepth 100000 in
theorem lp_87 (hk : k0 ≠ ks ∧ k0 ≠ kc ∧ ks ≠ kc) (hkt : k0 < t0.length ∧ ks < t0.length ∧ kc < t0.length) (hE : E = fE (tkP B n) sc row tg) (R : RX C0 sc row tg false) (hb : b < 6) (hw : w = sc.2.1 b) : ∀ (f : Nat) (cs : List Nat) (ss : List (Option (List op_T))) (i : Nat) (nl : Option Nat) (C : co_T) (t : ab_H) (sl : Nat), SEs B n m C0 t0 i0 sl0 k0 kc ks w kd0 (nI b) cs ss i nl C t sl → nzp (rSet (tkP B n) sc E b f cs i nl) → (∀ cs' ss' i' nl' C' t' sl', rSet (tkP B n) sc E b f cs i nl = .inr ((cs', ss'), i', nl') → SEs B n m C0 t0 i0 sl0 k0 kc ks w kd0 (nI b) (cs ++ cs') (ss ++ ss') i' nl' C' t' sl' → P none (MH C' t') sl') → (∀ c j a h q, rSet (tkP B n) sc E b f cs i nl = .inl (c, j) → (∃ C' t' s, (flt B n C' c j ∧ frD C0 C' ∧ tlR k0 kc ks i0 j sl0 s t0 t') ∧ Xk 12 C' t' s a h q) → X a h q) → Wd L xs (d + 57) y_87 (14, [(3, .int (nI (ss.length))), (2, .int 1), (0, .ref 120), (1, .ref (241 + k0))], [], MH C t, sl) P X
  | 0, cs, ss, i, nl, C, t, sl, A, hz, HN, HX => absurd rfl (hz 0)
  | f + 1, cs, ss, i, nl, C, t, sl, A, hz, HN, HX => by
    obtain ⟨⟨hT1, hT2, hT3⟩, ⟨fc, fs, A1, A2, A3, A4⟩, ⟨D1, D2, D3, D4⟩, ⟨B1, B2, B3, B4, B5⟩, B6⟩ := id A
    have hi6 := hT1.2.2.2.1
    have h600 := tkS_600 hT1
    have hE1 : E.1 = kd B n := by rw [hE]; rfl
    have hRX := RX_F R hT3
    have hw6 := (hRX.1.2 b hb).2.1
    have er : rSet (tkP B n) sc E b (f + 1) cs i nl = pb (rCol (tkP B n) sc b cs i) (fun c => pb (xpP (tkP B n) 50 c.2) (fun j => pb (rFm E 3 j nl) (fun x => if (tkP B n).1 x.2.1 = 48 then pb (rSet (tkP B n) sc E b f (cs ++ [c.1]) (x.2.1 + 1) x.2.2) (fun y => .inr ((c.1 :: y.1.1, some x.1 :: y.1.2), y.2)) else .inr (([c.1], [some x.1]), x.2)))) := rfl
    rw [er] at hz HN HX
    have hcol := m_54 (L := L) (xs := xs) (d := d + 49) (sl := 0) (b := b) hT1 hRX.1 hb A1.2.1 A2 (by omega) (fun x hx => by have := D3 x hx; omega)
    rw [D1] at hcol
    have hXC : ∀ (c : Int32) (j : Nat) (a : Nat) (h : ab_H) (q s : Nat), rCol (tkP B n) sc b cs i = .inl (c, j) → tkS B n m C j → s ≤ sl → Xk 12 (rfC B n C j c) t s a h q → X a h q := by
      intro c j a h q s e S hs x
      have hj : j = i := by
        unfold rCol at e
        split at e
        · split at e
          · cases e; rfl
          · split at e
            · cases e; rfl
            · cases e
        · cases e; rfl
      subst hj
      exact HX c j a h q (pb_l e) ⟨_, t, s, ⟨flt_rf.1, frD_t (frD_F hT3) flt_rf.2, B1, B2, B3, by omega, B5⟩, x⟩
    by_cases h6 : ss.length = 6
    · skip
      refine w_p (pc1 := 15) rfl rfl ?_
      refine w_p (pc1 := 17) (st1 := .int 6 :: _) rfl rfl ?_
      refine w_t (a := 90) (b := 20) (bN_ge_t (a := ss.length) (b := 6) (by omega) (by omega) (by omega)) rfl rfl ?_
      refine w_p (pc1 := 91) rfl rfl ?_
      refine w_f (a := 111) (b := 94) rfl rfl rfl ?_
      refine w_p (pc1 := 95) rfl rfl ?_
      refine w_p (pc1 := 96) rfl rfl ?_
      refine w_m0 (pc1 := 99) (st1 := .int (nI (b)) :: _) rfl rfl (x_gf (k := k0) rfl A1.1 rfl) rfl ?_
      refine w_p (pc1 := 100) rfl rfl ?_
      refine w_m0 (pc1 := 103) (st1 := .ref (241 + kc) :: _) rfl rfl (x_gf (k := k0) rfl A1.1 rfl) rfl ?_
      refine w_p (pc1 := 104) rfl rfl ?_
      refine w_m0 (pc1 := 107) (st1 := .int (nI (ss.length)) :: _) rfl rfl (x_gf (k := k0) rfl A1.1 rfl) rfl ?_
      refine w_ji (pc1 := 110) (vs := [.ref 120, .int (nI (b)), .ref (241 + kc), .int (nI (ss.length))]) (rest := []) (hcol) rfl rfl rfl (fun _ _ => rfl) rfl (by exact cl_v my_54 rfl rfl rfl (Nat.le_of_ble_eq_true rfl) rfl (MH_obj rfl rfl) rfl (by decide) rfl rfl) (by rfl) (Nat.le_of_ble_eq_true rfl) (Nat.le_of_ble_eq_true rfl) rfl (fun v h1 d1 hq => ?_) (fun a h1 d1 hq => ?_)
      · obtain ⟨c, i1, C1, ⟨r1, r2, r3, r4⟩, hh, hn⟩ := hq
        exfalso
        have hc6 : c < w := by rw [hw]; exact r2.2.1
        have := php w (cs ++ [c]) (fun x hx => by
          rcases List.mem_append.mp hx with h | h
          · exact D3 x h
          · rcases List.mem_cons.mp h with rfl | h
            · exact hc6
            · cases h) (nd_s D4 r2.2.2)
        rw [len_s] at this
        omega
      · rcases hq with ⟨c, j, ⟨x1, x2⟩, ha, hh, hn⟩
        · subst ha; subst hh; subst hn
          refine Or.inl ⟨ch_new (by decide) rfl, ?_⟩
          refine hXC c j _ _ _ (sl + 0) x1 x2 (by omega) ⟨rfl, ?_, by omega⟩
          with_reducible rfl
    · skip
      refine w_p (pc1 := 15) rfl rfl ?_
      refine w_p (pc1 := 17) (st1 := .int 6 :: _) rfl rfl ?_
      refine w_f (a := 90) (b := 20) (bN_ge_f (a := ss.length) (b := 6) (by omega) (by omega) (by omega)) rfl rfl ?_
      refine w_p (pc1 := 21) rfl rfl ?_
      refine w_f (a := 90) (b := 24) rfl rfl rfl ?_
      refine w_p (pc1 := 25) rfl rfl ?_
      refine w_m0 (pc1 := 28) (st1 := .ref (241 + kc) :: _) rfl rfl (x_gf (k := k0) rfl A1.1 rfl) rfl ?_
      refine w_p (pc1 := 29) rfl rfl ?_
      refine w_p (pc1 := 30) rfl rfl ?_
      refine w_p (pc1 := 31) rfl rfl ?_
      refine w_m0 (pc1 := 34) (st1 := .int (nI (b)) :: _) rfl rfl (x_gf (k := k0) rfl A1.1 rfl) rfl ?_
      refine w_p (pc1 := 35) rfl rfl ?_
      refine w_m0 (pc1 := 38) (st1 := .ref (241 + kc) :: _) rfl rfl (x_gf (k := k0) rfl A1.1 rfl) rfl ?_
      refine w_p (pc1 := 39) rfl rfl ?_
      refine w_ji (pc1 := 42) (vs := [.ref 120, .int (nI (b)), .ref (241 + kc), .int (nI (ss.length))]) (rest := [.int (nI (ss.length)), .ref (241 + kc)]) (hcol) rfl rfl rfl (fun _ _ => rfl) rfl (by exact cl_v my_54 rfl rfl rfl (Nat.le_of_ble_eq_true rfl) rfl (MH_obj rfl rfl) rfl (by decide) rfl rfl) (by rfl) (Nat.le_of_ble_eq_true rfl) (Nat.le_of_ble_eq_true rfl) rfl (fun v h1 d1 hq => ?_) (fun a h1 d1 hq => ?_)
      · obtain ⟨c, i1, C1, ⟨r1, ⟨hv, r2, r3⟩, r4, r5⟩, hh, hn⟩ := hq
        subst hv; subst hh; subst hn
        rw [pb_r r1] at HN HX
        have hz := nzp_g r1 hz
        have hi1 : i1 = i + 1 := by
          unfold rCol at r1
          split at r1
          · split at r1
            · cases r1
            · split at r1
              · cases r1
              · cases r1; rfl
          · cases r1
        subst hi1
        have him1 := r4.2.2.2.1
        have c6 : c < 6 := by omega
        have hF1 : frF C0 C1 := frF_t hT3 (frF_N r5)
        have hl1 : lfK (C1.1 21 6) nl := by rw [r5.1 21 6 (by omega)]; exact hT2
        obtain ⟨t1, e1, g1, p1, q1⟩ := tl_st A1.2.1 (.inl (0, 6, .inl (upd fc ss.length (nI c))))
        have A1' : AP t1 k0 kc ks kd0 (nI b) (upd fc ss.length (nI c)) fs (nI ss.length) .null 0 := ⟨p1 _ _ hk.2.1 A1.1, g1, p1 _ _ hk.2.2 A1.2.2⟩
        have fk1 : ∀ j s, ss[j]? = some s → foN t0.length t1 0 (va_rf (fs j)) s := fun j s hj => by rw [← e1]; exact foN_s hkt.2.2 (A3 j s hj)
        have A2' : arI (upd fc ss.length (nI c)) 0 (cs ++ [c]) := fun j x hj => by
          rw [Nat.zero_add, upd_at]
          by_cases e : j < cs.length
          · rw [if_neg (by omega)]
            rw [List.getElem?_append_left e] at hj
            have := A2 j x hj
            rw [Nat.zero_add] at this
            exact this
          · have hjl := get_lt hj
            rw [len_s] at hjl
            obtain rfl : j = cs.length := by omega
            rw [List.getElem?_append_right (Nat.le_refl _), Nat.sub_self] at hj
            cases hj
            rw [if_pos D1]
        have hkeep1 : ∀ j x, j ≠ k0 → j ≠ ks → j ≠ kc → t0[j]? = some x → t1[j]? = some x := fun j x h1 h2 h3 h => p1 _ _ h3 (B1 j x h1 h2 h3 h)
        refine w_m0 (pc1 := 43) rfl rfl (x_is (k := kc) (e := ss.length) A1.2.1 (by omega) (by omega)) rfl ?_
        rw [e1]
        by_cases h50 : kd B n (i + 1) = 50
        · have x0 : xpP (tkP B n) 50 (i + 1) = .inr (i + 1 + 1) := if_pos h50
          rw [pb_r x0] at HN HX
          have hz := nzp_g x0 hz
          have hS2 := nxT_S r4 (by rw [h50]; decide) (by rw [h50]; decide)
          have him2 := hS2.2.2.2.1
          have hF2 : frF C0 (nxT B n C1 (i + 1)) := frF_t hF1 (frF_N nxT_fr)
          have hl2 : lfK ((nxT B n C1 (i + 1)).1 21 6) nl := by rw [nxT_fr.1 21 6 (by omega)]; exact hl1
          have hEk : eK B n (nxT B n C1 (i + 1)) E := by rw [hE]; exact RX_e (RX_F R hF2)
          have hg : (nxT B n C1 (i + 1)).1 21 10 = ck false := (hF2.1 21 10 (by omega) (by omega) (by omega) (by omega)).trans R.2.2.2
          cases hr : rd E 6000 3 (i + 1 + 1, [], 0, nl) with
          | inl ce =>
            obtain ⟨c2, j⟩ := ce
            have f1 : rFm E 3 (i + 1 + 1) nl = .inl (c2, j) := by
              unfold rFm
              rw [hr]
            have hc : c2 ≠ 0 := fun e => hz j (by rw [pb_l f1, e])
            have hcl := m_83e (L := L) (xs := xs) (t := t1) (d := d + 1) (sl := 0) hS2 hEk hl2 hc hr
            have hij : i + 1 + 1 ≤ j := rd_ij hr hc
            refine w_p (pc1 := 44) rfl rfl ?_
            refine w_m0 (pc1 := 47) rfl rfl (h_gC rfl rfl rfl rfl) rfl ?_
            refine w_m0 (pc1 := 50) (st1 := .ref 50 :: _) rfl rfl rfl rfl ?_
            refine w_je (pc1 := 53) (vs := [.ref 101, .ref 50]) (rest := []) (st1 := []) (m_38y (d := d + 55) (sl := 0) r4 (by decide) h50 (by decide) (by decide)) rfl rfl rfl (fun _ _ => rfl) rfl (by exact cl_v my_38 rfl rfl rfl (Nat.le_of_ble_eq_true rfl) rfl (MH_obj rfl rfl) rfl (by decide) rfl rfl) (by rfl) (Nat.le_of_ble_eq_true rfl) (Nat.le_of_ble_eq_true rfl) rfl (by rfl) ?_
            refine w_p (pc1 := 54) rfl rfl ?_
            refine w_m0 (pc1 := 57) (st1 := .ref (241 + ks) :: _) rfl rfl (x_gf (k := k0) rfl A1'.1 rfl) rfl ?_
            refine w_p (pc1 := 58) rfl rfl ?_
            refine w_p (pc1 := 59) rfl rfl ?_
            refine w_m0 (pc1 := 62) rfl rfl (h_gC rfl rfl rfl rfl) rfl ?_
            refine w_ji (pc1 := 65) (vs := [.ref 121]) (rest := [.int (nI (ss.length)), .ref (241 + ks)]) (hcl) rfl rfl rfl (fun _ _ => rfl) rfl (by exact cl_v my_83 rfl rfl rfl (Nat.le_of_ble_eq_true rfl) rfl (MH_obj rfl rfl) rfl (by decide) rfl rfl) (by rfl) (Nat.le_of_ble_eq_true rfl) (Nat.le_of_ble_eq_true rfl) rfl (fun v h1 d1 hq => ?_) (fun a h1 d1 hq => ?_)
            · exact hq.elim
            · rcases hq with ⟨C2, f2, s2, ha, hh, hn⟩
              · subst ha; subst hh; subst hn
                refine Or.inl ⟨ch_new (by decide) rfl, ?_⟩
                refine HX c2 j _ _ _ (pb_l f1) ⟨_, t1, sl + 0 + 0 + 0, ⟨flt_rf.1, frD_t (frD_F (frF_t hF2 f2)) flt_rf.2, hkeep1, by omega, by omega, by omega, by omega⟩, rfl, ?_, by omega⟩
                with_reducible rfl
          | inr z =>
            have f1 : rFm E 3 (i + 1 + 1) nl = .inr (z.2.1, z.1, z.2.2.2) := by
              unfold rFm
              rw [hr]
            rw [pb_r f1] at HN HX
            have hz := nzp_g f1 hz
            have hcl := m_83 (L := L) (xs := xs) (t := t1) (d := d + 1) (sl := 0) hS2 hEk hl2 hg (by omega) hr
            have hfl := rd_fle _ _ _ _ hr
            have hf1 : z.2.1.length + (i + 1 + 1) ≤ 0 + z.1 := hfl.2.1
            have hpr := rd_p1 hE1 hS2 (Or.inl rfl) hr
            refine w_p (pc1 := 44) rfl rfl ?_
            refine w_m0 (pc1 := 47) rfl rfl (h_gC rfl rfl rfl rfl) rfl ?_
            refine w_m0 (pc1 := 50) (st1 := .ref 50 :: _) rfl rfl rfl rfl ?_
            refine w_je (pc1 := 53) (vs := [.ref 101, .ref 50]) (rest := []) (st1 := []) (m_38y (d := d + 55) (sl := 0) r4 (by decide) h50 (by decide) (by decide)) rfl rfl rfl (fun _ _ => rfl) rfl (by exact cl_v my_38 rfl rfl rfl (Nat.le_of_ble_eq_true rfl) rfl (MH_obj rfl rfl) rfl (by decide) rfl rfl) (by rfl) (Nat.le_of_ble_eq_true rfl) (Nat.le_of_ble_eq_true rfl) rfl (by rfl) ?_
            refine w_p (pc1 := 54) rfl rfl ?_
            refine w_m0 (pc1 := 57) (st1 := .ref (241 + ks) :: _) rfl rfl (x_gf (k := k0) rfl A1'.1 rfl) rfl ?_
            refine w_p (pc1 := 58) rfl rfl ?_
            refine w_p (pc1 := 59) rfl rfl ?_
            refine w_m0 (pc1 := 62) rfl rfl (h_gC rfl rfl rfl rfl) rfl ?_
            refine w_ji (pc1 := 65) (vs := [.ref 121]) (rest := [.int (nI (ss.length)), .ref (241 + ks)]) (hcl) rfl rfl rfl (fun _ _ => rfl) rfl (by exact cl_v my_83 rfl rfl rfl (Nat.le_of_ble_eq_true rfl) rfl (MH_obj rfl rfl) rfl (by decide) rfl rfl) (by rfl) (Nat.le_of_ble_eq_true rfl) (Nat.le_of_ble_eq_true rfl) rfl (fun v h q hq => ?_) (fun _ _ _ e => e.elim)
            obtain ⟨rfl, ⟨C2, t2, ⟨y1, y2, y3, ⟨s0, y4⟩, y5, y6⟩, rfl⟩, rfl⟩ := hq
            have A1'' : AP t2 k0 kc ks kd0 (nI b) (upd fc ss.length (nI c)) fs (nI ss.length) .null 0 := ⟨y5 _ _ A1'.1, y5 _ _ A1'.2.1, y5 _ _ A1'.2.2⟩
            obtain ⟨t3, e3, g3, p3, q3⟩ := tl_st A1''.2.2 (.inl (8, 6, .inr (.inr (.inr (.inr (va_up fs ss.length (some (241 + t1.length))))))))
            have A3' : AP t3 k0 kc ks kd0 (nI b) (upd fc ss.length (nI c)) (va_up fs ss.length (some (241 + t1.length))) (nI ss.length) .null 0 := ⟨p3 _ _ hk.1 A1''.1, p3 _ _ (Ne.symm hk.2.2) A1''.2.1, g3⟩
            obtain ⟨t4, e4, g4, p4, q4⟩ := tl_st A3'.1 (.inr (9, [.int kd0, .int (nI b), .ref (241 + kc), .ref (241 + ks), .int (nI (ss.length + 1)), .null, .int 0]))
            have A4' : AP t4 k0 kc ks kd0 (nI b) (upd fc ss.length (nI c)) (va_up fs ss.length (some (241 + t1.length))) (nI (ss ++ [some z.2.1]).length) .null 0 := ⟨by rw [len_s]; exact g4, p4 _ _ (Ne.symm hk.2.1) A3'.2.1, p4 _ _ (Ne.symm hk.1) A3'.2.2⟩
            have fk4 : ∀ j s, (ss ++ [some z.2.1])[j]? = some s → foN t0.length t4 0 (va_rf ((va_up fs ss.length (some (241 + t1.length))) j)) s := fun j s hj => by
              rw [← e4, ← e3]
              refine foN_s hkt.1 (foN_s hkt.2.1 ?_)
              show foN t0.length t2 0 (va_rf (if j = ss.length then some (241 + t1.length) else fs j)) s
              by_cases e : j < ss.length
              · rw [if_neg (by omega)]
                rw [List.getElem?_append_left e] at hj
                exact foN_e y5 (fk1 j s hj)
              · have hjl := get_lt hj
                rw [len_s] at hjl
                obtain rfl : j = ss.length := by omega
                rw [List.getElem?_append_right (Nat.le_refl _), Nat.sub_self] at hj
                cases hj
                rw [if_pos rfl]
                exact ⟨t1.length, s0, rfl, by omega, y4, by omega⟩
            have hmid : SEs B n m C0 t0 i0 sl0 k0 kc ks w kd0 (nI b) (cs ++ [c]) (ss ++ [some z.2.1]) z.1 z.2.2.2 C2 t4 (sl + 0 + 0 + (0 + (4 + 3 * z.2.1.length))) := ⟨⟨y1, y2, frF_t hF2 y3⟩, ⟨_, _, A4', A2', fk4, fun j hj => by
              rw [len_s] at hj
              show (if j = ss.length then some (241 + t1.length) else fs j) = none
              rw [if_neg (by omega)]
              exact A4 j (by omega)⟩, ⟨by rw [len_s, len_s, D1], by rw [len_s]; omega, (fun x hx => by
                rcases List.mem_append.mp hx with h | h
                · exact D3 x h
                · rcases List.mem_cons.mp h with rfl | h
                  · rw [hw]; exact r2
                  · cases h), nd_s D4 r3⟩, ⟨fun j x h1 h2 h3 h => p4 _ _ h1 (p3 _ _ h2 (y5 _ _ (hkeep1 j x h1 h2 h3 h))), by omega, by omega, by omega, by omega⟩, by omega⟩
            have hzm := y1.2.2.2.1
            refine w_m0 (pc1 := 66) rfl rfl (x_ass (k := ks) (e := ss.length) A1''.2.2 y4.1 rfl (by omega) (by omega)) rfl ?_
            rw [e3]
            refine w_p (pc1 := 67) rfl rfl ?_
            refine w_p (pc1 := 68) rfl rfl ?_
            refine w_p (pc1 := 69) (st1 := .int 1 :: _) rfl rfl ?_
            refine w_iadd (pc1 := 70) (u := nI (ss.length)) (v := nI (1)) (z := nI (ss.length + 1)) rfl (nK_add) rfl ?_
            refine w_m0 (pc1 := 73) rfl rfl (x_pf (k := k0) (fs' := [.int (kd0), .int (nI (b)), .ref (241 + kc), .ref (241 + ks), .int (nI (ss.length + 1)), .null, .int 0]) rfl A3'.1 rfl rfl ⟨rfl, rfl⟩ (Or.inl rfl) (Nat.le_of_ble_eq_true rfl) rfl) rfl ?_
            rw [e4]
            by_cases h48 : kd B n z.1 = 48
            · have h48' : (tkP B n).1 z.1 = 48 := h48
              rw [if_pos h48'] at HN HX hz
              refine c87y y1 h48 (by omega) ?_
              have IH := lp_87 hk hkt hE R hb hw f (cs ++ [c]) (ss ++ [some z.2.1]) (z.1 + 1) z.2.2.2 (nxT B n C2 z.1) t4 _ (SEs_N y1 (by rw [h48]; decide) (by rw [h48]; decide) hmid) (nzp_b hz) (fun cs' ss' i' nl' C' t' sl' e A' => ?_) (fun c j a h q e x => HX c j a h q (pb_l e) x)
              · rw [len_s] at IH
                exact IH
              · have := HN (c :: cs') (some z.2.1 :: ss') i' nl' C' t' sl' (pb_r e)
                rw [List.append_cons cs c cs', List.append_cons ss (some z.2.1) ss'] at this
                exact this A'
            · have h48' : (tkP B n).1 z.1 ≠ 48 := h48
              rw [if_neg h48'] at HN
              exact c87n y1 h48 (by omega) (HN [c] [some z.2.1] z.1 z.2.2.2 C2 t4 _ rfl hmid)
        · have x0 : xpP (tkP B n) 50 (i + 1) = .inl (2, i + 1) := if_neg h50
          refine w_p (pc1 := 44) rfl rfl ?_
          refine w_m0 (pc1 := 47) rfl rfl (h_gC rfl rfl rfl rfl) rfl ?_
          refine w_m0 (pc1 := 50) (st1 := .ref 50 :: _) rfl rfl rfl rfl ?_
          refine w_ji (pc1 := 53) (vs := [.ref 101, .ref 50]) (rest := []) (m_38n (d := d + 49) (sl := 0) r4 (by decide) h50) rfl rfl rfl (fun _ _ => rfl) rfl (by exact cl_v my_38 rfl rfl rfl (Nat.le_of_ble_eq_true rfl) rfl (MH_obj rfl rfl) rfl (by decide) rfl rfl) (by rfl) (Nat.le_of_ble_eq_true rfl) (Nat.le_of_ble_eq_true rfl) rfl (fun v h1 d1 hq => ?_) (fun a h1 d1 hq => ?_)
          · exact hq.elim
          · rcases hq with ⟨ha, hh, hn⟩
            · subst ha; subst hh; subst hn
              refine Or.inl ⟨ch_new (by decide) rfl, ?_⟩
              refine HX 2 (i + 1) _ _ _ (pb_l x0) ⟨_, t1, sl + 0 + 0, ⟨flt_rf.1, frD_t (frD_F hF1) flt_rf.2, hkeep1, by omega, by omega, by omega, by omega⟩, rfl, ?_, by omega⟩
              with_reducible rfl
      · rcases hq with ⟨c, j, ⟨x1, x2⟩, ha, hh, hn⟩
        · subst ha; subst hh; subst hn
          refine Or.inl ⟨ch_new (by decide) rfl, ?_⟩
          refine hXC c j _ _ _ (sl + 0) x1 x2 (by omega) ⟨rfl, ?_, by omega⟩
          with_reducible rfl
/-! the whole of it -/
def PSt (B : Nat → Nat) (n m : Nat) (C : co_T) (t : ab_H) (i sl k0 kc ks w : Nat) (kd0 tb0 : Int32) (r : pz_T ((List Nat × List (Option (List op_T))) × Nat × Option Nat)) : Option Value → ab_H → Nat → Prop := fun v h q => ∃ a i' nl' C' t', (r = .inr (a, i', nl') ∧ none = v ∧ SEs B n m C t i sl k0 kc ks w kd0 tb0 a.1 a.2 i' nl' C' t' q) ∧ MH C' t' = h
set_option maxRecDepth 100000 in
theorem m_87 (hk : k0 ≠ ks ∧ k0 ≠ kc ∧ ks ≠ kc) (S : tkS B n m C i) (hi : 1 ≤ i) (hl : lfK (C.1 21 6) nl) (R : RX C sc (some b) tg false) (hb : b < 6) {fc : Nat → Int32} (A : AP t k0 kc ks kd0 (nI b) fc (fun _ => none) 0 .null 0) (hz : nzp (rUpd (tkP B n) sc tg 1 b i nl)) : Wd L xs (d + 57) y_87 (0, [(0, .ref 120), (1, .ref (241 + k0))], [], MH C t, sl) (PSt B n m C t i sl k0 kc ks (sc.2.1 b) kd0 (nI b) (rUpd (tkP B n) sc tg 1 b i nl)) (XAc B n C t i sl k0 kc ks (rUpd (tkP B n) sc tg 1 b i nl)) := by
  have hkt : k0 < t.length ∧ ks < t.length ∧ kc < t.length := ⟨get_lt A.1, get_lt A.2.2, get_lt A.2.1⟩
  have eu : rUpd (tkP B n) sc tg 1 b i nl = pb (xpP (tkP B n) 34 i) (fun j => rSet (tkP B n) sc (fE (tkP B n) sc (some b) tg) b 601 [] j nl) := if_pos rfl
  by_cases hk34 : kd B n i = 34
  · have e0 : xpP (tkP B n) 34 i = .inr (i + 1) := if_pos hk34
    have er : rUpd (tkP B n) sc tg 1 b i nl = rSet (tkP B n) sc (fE (tkP B n) sc (some b) tg) b 601 [] (i + 1) nl := eu.trans (pb_r e0)
    have hS1 := nxT_S S (by rw [hk34]; decide) (by rw [hk34]; decide)
    have R1 := RX_F R (frF_N (nxT_fr (B := B) (n := n) (i := i)))
    rw [er] at hz
    have hgo := lp_87 (L := L) (xs := xs) (d := d) (B := B) (n := n) (m := m) (C0 := nxT B n C i) (t0 := t) (i0 := i + 1) (sl0 := sl + 0) (k0 := k0) (kc := kc) (ks := ks) (w := sc.2.1 b) (kd0 := kd0) (P := PSt B n m C t i sl k0 kc ks (sc.2.1 b) kd0 (nI b) (rUpd (tkP B n) sc tg 1 b i nl)) (X := XAc B n C t i sl k0 kc ks (rUpd (tkP B n) sc tg 1 b i nl)) hk hkt rfl R1 hb rfl 601 [] [] (i + 1) nl (nxT B n C i) t (sl + 0) ⟨⟨hS1, by rw [nxT_fr.1 21 6 (by omega)]; exact hl, frF_r⟩, ⟨fc, _, A, (fun j x hj => by cases hj), (fun j s hj => by cases hj), fun _ _ => rfl⟩, ⟨rfl, by decide, (fun x hx => by cases hx), List.nodup_nil⟩, ⟨fun j x _ _ _ h => h, by omega, Nat.le_refl _, by omega, Nat.le_refl _⟩, by omega⟩ hz (fun cs' ss' i' nl' C' t' sl' e A' => by
      obtain ⟨⟨a1, a2, a3⟩, a4, a5, ⟨b1, b2, b3, b4, b5⟩, b6⟩ := A'
      refine ⟨(cs', ss'), i', nl', C', t', ⟨er.trans e, rfl, ⟨a1, a2, frF_t (frF_N nxT_fr) a3⟩, a4, a5, ⟨b1, by omega, b3, by omega, by omega⟩, b6⟩, ?_⟩
      with_reducible rfl) (fun c j a h q e x => by
      obtain ⟨C1, t1, s1, ⟨x1, x2, x3, x4, x5, x6, x7⟩, x8⟩ := x
      exact ⟨c, j, C1, t1, s1, ⟨er.trans e, x1, frD_t (frD_N nxT_fr) x2, x3, by omega, x5, by omega, by omega⟩, x8⟩)
    refine w_p (pc1 := 1) rfl rfl ?_
    refine w_m0 (pc1 := 4) rfl rfl (h_gC rfl rfl rfl rfl) rfl ?_
    refine w_m0 (pc1 := 7) (st1 := .ref 34 :: _) rfl rfl rfl rfl ?_
    refine w_je (pc1 := 10) (vs := [.ref 101, .ref 34]) (rest := []) (st1 := []) (m_38y (d := d + 55) (sl := 0) S (by decide) hk34 (by decide) (by decide)) rfl rfl rfl (fun _ _ => rfl) rfl (by exact cl_v my_38 rfl rfl rfl (Nat.le_of_ble_eq_true rfl) rfl (MH_obj rfl rfl) rfl (by decide) rfl rfl) (by rfl) (Nat.le_of_ble_eq_true rfl) (Nat.le_of_ble_eq_true rfl) rfl (by rfl) ?_
    refine w_p (pc1 := 11) (st1 := .int 1 :: _) rfl rfl ?_
    refine w_p (pc1 := 12) (al1 := [(2, .int 1), (0, .ref 120), (1, .ref (241 + k0))]) rfl rfl ?_
    refine w_p (pc1 := 13) (st1 := .int 0 :: _) rfl rfl ?_
    refine w_p (pc1 := 14) (al1 := [(3, .int 0), (2, .int 1), (0, .ref 120), (1, .ref (241 + k0))]) rfl rfl ?_
    exact hgo
  · have e0 : xpP (tkP B n) 34 i = .inl (2, i) := if_neg hk34
    have er : rUpd (tkP B n) sc tg 1 b i nl = .inl (2, i) := eu.trans (pb_l e0)
    refine w_p (pc1 := 1) rfl rfl ?_
    refine w_m0 (pc1 := 4) rfl rfl (h_gC rfl rfl rfl rfl) rfl ?_
    refine w_m0 (pc1 := 7) (st1 := .ref 34 :: _) rfl rfl rfl rfl ?_
    refine w_ji (pc1 := 10) (vs := [.ref 101, .ref 34]) (rest := []) (m_38n (d := d + 49) (sl := 0) S (by decide) hk34) rfl rfl rfl (fun _ _ => rfl) rfl (by exact cl_v my_38 rfl rfl rfl (Nat.le_of_ble_eq_true rfl) rfl (MH_obj rfl rfl) rfl (by decide) rfl rfl) (by rfl) (Nat.le_of_ble_eq_true rfl) (Nat.le_of_ble_eq_true rfl) rfl (fun v h1 d1 hq => ?_) (fun a h1 d1 hq => ?_)
    · exact hq.elim
    · rcases hq with ⟨ha, hh, hn⟩
      · subst ha; subst hh; subst hn
        refine Or.inl ⟨ch_new (by decide) rfl, ?_⟩
        refine ⟨2, i, _, t, _, ⟨er, flt_rf.1, flt_rf.2, fun j x _ _ _ h => h, by omega, Nat.le_refl _, by omega, Nat.le_refl _⟩, rfl, ?_, rfl⟩
        with_reducible rfl
end SET
