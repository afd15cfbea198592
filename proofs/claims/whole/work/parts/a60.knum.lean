
/-! ONE SIDE: a table is read, 3: numbers, what follows a change -/
def rInt (K : tv2) (i : Nat) : pz_T (Int64 × Nat) := if K.1 i = 57 then (if K.1 (i + 1) = 4 then .inr (-(K.2 (i + 1)), i + 1 + 1) else .inl (2, i + 1)) else if K.1 i = 4 then .inr (K.2 i, i + 1) else .inl (2, i)
def acN (k : Nat) : Option Nat := if k = 36 then some 1 else if k = 11 then some 2 else if k = 27 then some 3 else if k = 14 then some 4 else none
def rAcn (K : tv2) (i : Nat) : pz_T (Nat × Nat) := match acN (K.1 i) with
  | none => .inl (2, i)
  | some a => .inr (a, i + 1)
section NUM
variable {L : Nat} {xs : Nat → Int32} {B : Nat → Nat} {n m : Nat} {C C' C0 C1 : co_T} {t t0 t1 : ab_H} {d sl sl0 sl1 i i0 i1 j b e ti k k0 kc ks w c : Nat} {sc : sc_T} {row : Option Nat} {tg : Option (Nat × Nat)} {nl : Option Nat} {kd0 tb0 : Int32} {P : Option Value → ab_H → Nat → Prop} {X : Nat → ab_H → Nat → Prop} {cs : List Nat} {ss : List (Option (List op_T))} {E : fe_T} {tr : Nat → Option tr_T} {ru : Nat → Option ru_T}
def PNa (B : Nat → Nat) (n m : Nat) (C : co_T) (t : ab_H) (i sl kc w : Nat) (r : pz_T (List Nat × Nat)) : Option Value → ab_H → Nat → Prop := fun v h q => ∃ cs i' C' t', (r = .inr (cs, i') ∧ some (.int (nI cs.length)) = v ∧ NMs B n m C t i sl kc w cs i' C' t' q) ∧ MH C' t' = h
def XNa (B : Nat → Nat) (n : Nat) (C : co_T) (t : ab_H) (i sl kc : Nat) (r : pz_T (List Nat × Nat)) : Nat → ab_H → Nat → Prop := fun a h q => ∃ c j C' t', (r = .inl (c, j) ∧ frN C C' ∧ ((∀ j x, j ≠ kc → t[j]? = some x → t'[j]? = some x) ∧ t'.length = t.length) ∧ i ≤ j) ∧ Xk 12 (rfC B n C' j c) t' sl a h q
set_option maxRecDepth 100000 in
theorem m_53 {fc : Nat → Int32} (S : tkS B n m C i) (hS : SCK C sc) (hb : b < 6) (hc : t[kc]? = some (.inl (0, 6, .inl fc))) : Wd L xs (d + 8) y_53 (0, [(0, .ref 120), (1, .int (nI b)), (2, .ref (241 + kc))], [], MH C t, sl) (PNa B n m C t i sl kc (sc.2.1 b) (rNam (tkP B n) sc b 7 [] i)) (XNa B n C t i sl kc (rNam (tkP B n) sc b 7 [] i)) := by
  have hgo := lp_53 (L := L) (xs := xs) (d := d) (B := B) (n := n) (m := m) (C0 := C) (t0 := t) (i0 := i) (sl0 := sl) (kc := kc) (w := sc.2.1 b) (P := PNa B n m C t i sl kc (sc.2.1 b) (rNam (tkP B n) sc b 7 [] i)) (X := XNa B n C t i sl kc (rNam (tkP B n) sc b 7 [] i)) hS hb rfl 7 [] i C t sl rfl ⟨⟨S, ⟨fun _ _ _ => rfl, fun _ _ _ => rfl, fun _ _ _ => rfl⟩⟩, ⟨fc, hc, (fun j x hj => by cases hj)⟩, ⟨by decide, (fun x hx => by cases hx), List.nodup_nil⟩, ⟨fun j x _ h => h, rfl⟩, rfl, Nat.le_refl _⟩ (fun cs' i' C' t' sl' e A' => by
    refine ⟨cs', i', C', t', ⟨e, rfl, A'⟩, ?_⟩
    with_reducible rfl) (fun c j C' t' a h q e x1 x2 x3 x4 => ⟨c, j, C', t', ⟨e, x1, x2, x3⟩, x4⟩)
  refine w_p (pc1 := 1) (st1 := .int 0 :: _) rfl rfl ?_
  refine w_p (pc1 := 2) (al1 := [(3, .int 0), (0, .ref 120), (1, .int (nI (b))), (2, .ref (241 + kc))]) rfl rfl ?_
  refine w_p (pc1 := 3) (st1 := .int 1 :: _) rfl rfl ?_
  refine w_p (pc1 := 5) (al1 := [(4, .int 1), (3, .int 0), (0, .ref 120), (1, .int (nI (b))), (2, .ref (241 + kc))]) rfl rfl ?_
  refine w_p (pc1 := 6) (st1 := .int 0 :: _) rfl rfl ?_
  refine w_p (pc1 := 8) (al1 := [(5, .int 0), (4, .int 1), (3, .int 0), (0, .ref 120), (1, .int (nI (b))), (2, .ref (241 + kc))]) rfl rfl ?_
  exact hgo
set_option maxRecDepth 100000 in
theorem rInt_s {K : tv2} {i i1 : Nat} {v : Int64} (h : rInt K i = .inr (v, i1)) : i + 1 ≤ i1 ∧ i1 ≤ i + 2 := by
  unfold rInt at h
  split at h
  · split at h
    · cases h; omega
    · cases h
  · split at h
    · cases h; omega
    · cases h
set_option maxRecDepth 100000 in
theorem rInt_j {K : tv2} {i j : Nat} {c : Int32} (h : rInt K i = .inl (c, j)) : i ≤ j := by
  unfold rInt at h
  split at h
  · split at h
    · cases h
    · cases h; omega
  · split at h
    · cases h
    · cases h; exact Nat.le_refl _
def XNf {α : Type} (B : Nat → Nat) (n m : Nat) (C : co_T) (t : ab_H) (sl : Nat) (r : pz_T α) : Nat → ab_H → Nat → Prop := fun a h q => ∃ c j C', (r = .inl (c, j) ∧ frN C C') ∧ Xk 12 (rfC B n C' j c) t sl a h q
set_option maxRecDepth 100000 in
theorem m_45 (S : tkS B n m C i) : Wd L xs (d + 8) y_45 (0, [(0, .ref 120)], [], MH C t, sl) (PN B n m C t sl (rInt (tkP B n) i) (fun a v => some (.long a) = v)) (XNf B n m C t sl (rInt (tkP B n) i)) := by
  by_cases h57 : kd B n i = 57
  · have S1 := nxT_S S (by rw [h57]; decide) (by rw [h57]; decide)
    have h57' : (tkP B n).1 i = 57 := h57
    by_cases h4 : kd B n (i + 1) = 4
    · have er : rInt (tkP B n) i = .inr (-(vl B n (i + 1)), i + 1 + 1) := (if_pos h57').trans (if_pos h4)
      refine w_p (pc1 := 1) rfl rfl ?_
      refine w_m0 (pc1 := 4) rfl rfl (h_gC rfl rfl rfl rfl) rfl ?_
      refine w_m0 (pc1 := 7) (st1 := .ref 57 :: _) rfl rfl rfl rfl ?_
      refine w_je (pc1 := 10) (vs := [.ref 101, .ref 57]) (rest := []) (st1 := [.int 1]) (m_44y (d := d + 6) (sl := 0) S (by decide) h57 (by decide) (by decide)) rfl rfl rfl (fun _ _ => rfl) rfl (by exact cl_v my_44 rfl rfl rfl (Nat.le_of_ble_eq_true rfl) rfl (MH_obj rfl rfl) rfl (by decide) rfl rfl) (by rfl) (Nat.le_of_ble_eq_true rfl) (Nat.le_of_ble_eq_true rfl) rfl (by rfl) ?_
      refine w_p (pc1 := 11) (al1 := [(1, .int 1), (0, .ref 120)]) rfl rfl ?_
      refine w_p (pc1 := 12) rfl rfl ?_
      refine w_m0 (pc1 := 15) rfl rfl (h_gC rfl rfl rfl rfl) rfl ?_
      refine w_m0 (pc1 := 18) (st1 := .long (vl B n (i + 1)) :: _) rfl rfl (h_gJe (j := 8) rfl rfl rfl rfl rfl (S1.2.2.2.2.2.2.2)) rfl ?_
      refine w_p (pc1 := 19) (al1 := [(2, .long (vl B n (i + 1))), (1, .int 1), (0, .ref 120)]) rfl rfl ?_
      refine w_p (pc1 := 20) rfl rfl ?_
      refine w_m0 (pc1 := 23) rfl rfl (h_gC rfl rfl rfl rfl) rfl ?_
      refine w_m0 (pc1 := 26) (st1 := .ref 4 :: _) rfl rfl rfl rfl ?_
      refine w_je (pc1 := 29) (vs := [.ref 101, .ref 4]) (rest := []) (st1 := []) (m_38y (d := d + 6) (sl := 0) S1 (by decide) h4 (by decide) (by decide)) rfl rfl rfl (fun _ _ => rfl) rfl (by exact cl_v my_38 rfl rfl rfl (Nat.le_of_ble_eq_true rfl) rfl (MH_obj rfl rfl) rfl (by decide) rfl rfl) (by rfl) (Nat.le_of_ble_eq_true rfl) (Nat.le_of_ble_eq_true rfl) rfl (by rfl) ?_
      refine w_p (pc1 := 30) rfl rfl ?_
      refine w_f (a := 38) (b := 33) rfl rfl rfl ?_
      refine w_p (pc1 := 34) rfl rfl ?_
      refine w_p (pc1 := 35) (st1 := .long (-(vl B n (i + 1))) :: _) rfl rfl ?_
      refine w_p (pc1 := 39) rfl rfl ?_
      refine w_r rfl rfl rfl (fun _ _ => rfl) rfl ?_
      refine ⟨-(vl B n (i + 1)), i + 1 + 1, _, ⟨er, rfl, nxT_S S1 (by rw [h4]; decide) (by rw [h4]; decide), frN_t' nxT_fr nxT_fr⟩, ?_, rfl⟩
      with_reducible rfl
    · have er : rInt (tkP B n) i = .inl (2, i + 1) := (if_pos h57').trans (if_neg h4)
      refine w_p (pc1 := 1) rfl rfl ?_
      refine w_m0 (pc1 := 4) rfl rfl (h_gC rfl rfl rfl rfl) rfl ?_
      refine w_m0 (pc1 := 7) (st1 := .ref 57 :: _) rfl rfl rfl rfl ?_
      refine w_je (pc1 := 10) (vs := [.ref 101, .ref 57]) (rest := []) (st1 := [.int 1]) (m_44y (d := d + 6) (sl := 0) S (by decide) h57 (by decide) (by decide)) rfl rfl rfl (fun _ _ => rfl) rfl (by exact cl_v my_44 rfl rfl rfl (Nat.le_of_ble_eq_true rfl) rfl (MH_obj rfl rfl) rfl (by decide) rfl rfl) (by rfl) (Nat.le_of_ble_eq_true rfl) (Nat.le_of_ble_eq_true rfl) rfl (by rfl) ?_
      refine w_p (pc1 := 11) (al1 := [(1, .int 1), (0, .ref 120)]) rfl rfl ?_
      refine w_p (pc1 := 12) rfl rfl ?_
      refine w_m0 (pc1 := 15) rfl rfl (h_gC rfl rfl rfl rfl) rfl ?_
      refine w_m0 (pc1 := 18) (st1 := .long (vl B n (i + 1)) :: _) rfl rfl (h_gJe (j := 8) rfl rfl rfl rfl rfl (S1.2.2.2.2.2.2.2)) rfl ?_
      refine w_p (pc1 := 19) (al1 := [(2, .long (vl B n (i + 1))), (1, .int 1), (0, .ref 120)]) rfl rfl ?_
      refine w_p (pc1 := 20) rfl rfl ?_
      refine w_m0 (pc1 := 23) rfl rfl (h_gC rfl rfl rfl rfl) rfl ?_
      refine w_m0 (pc1 := 26) (st1 := .ref 4 :: _) rfl rfl rfl rfl ?_
      refine w_ji (pc1 := 29) (vs := [.ref 101, .ref 4]) (rest := []) (m_38n (d := d) (sl := 0) S1 (by decide) h4) rfl rfl rfl (fun _ _ => rfl) rfl (by exact cl_v my_38 rfl rfl rfl (Nat.le_of_ble_eq_true rfl) rfl (MH_obj rfl rfl) rfl (by decide) rfl rfl) (by rfl) (Nat.le_of_ble_eq_true rfl) (Nat.le_of_ble_eq_true rfl) rfl (fun v h1 d1 hq => ?_) (fun a h1 d1 hq => ?_)
      · exact hq.elim
      · rcases hq with ⟨ha, hh, hn⟩
        · subst ha; subst hh; subst hn
          refine Or.inl ⟨ch_new (by decide) rfl, ?_⟩
          refine ⟨2, i + 1, nxT B n C i, ⟨er, nxT_fr⟩, rfl, ?_, rfl⟩
          with_reducible rfl
  · have h57' : ¬ ((tkP B n).1 i = 57) := h57
    by_cases h4 : kd B n i = 4
    · have er : rInt (tkP B n) i = .inr (vl B n i, i + 1) := (if_neg h57').trans (if_pos h4)
      refine w_p (pc1 := 1) rfl rfl ?_
      refine w_m0 (pc1 := 4) rfl rfl (h_gC rfl rfl rfl rfl) rfl ?_
      refine w_m0 (pc1 := 7) (st1 := .ref 57 :: _) rfl rfl rfl rfl ?_
      refine w_je (pc1 := 10) (vs := [.ref 101, .ref 57]) (rest := []) (st1 := [.int 0]) (m_44n (d := d + 7) (sl := 0) S (by decide) h57) rfl rfl rfl (fun _ _ => rfl) rfl (by exact cl_v my_44 rfl rfl rfl (Nat.le_of_ble_eq_true rfl) rfl (MH_obj rfl rfl) rfl (by decide) rfl rfl) (by rfl) (Nat.le_of_ble_eq_true rfl) (Nat.le_of_ble_eq_true rfl) rfl (by rfl) ?_
      refine w_p (pc1 := 11) (al1 := [(1, .int 0), (0, .ref 120)]) rfl rfl ?_
      refine w_p (pc1 := 12) rfl rfl ?_
      refine w_m0 (pc1 := 15) rfl rfl (h_gC rfl rfl rfl rfl) rfl ?_
      refine w_m0 (pc1 := 18) (st1 := .long (vl B n i) :: _) rfl rfl (h_gJe (j := 8) rfl rfl rfl rfl rfl (S.2.2.2.2.2.2.2)) rfl ?_
      refine w_p (pc1 := 19) (al1 := [(2, .long (vl B n i)), (1, .int 0), (0, .ref 120)]) rfl rfl ?_
      refine w_p (pc1 := 20) rfl rfl ?_
      refine w_m0 (pc1 := 23) rfl rfl (h_gC rfl rfl rfl rfl) rfl ?_
      refine w_m0 (pc1 := 26) (st1 := .ref 4 :: _) rfl rfl rfl rfl ?_
      refine w_je (pc1 := 29) (vs := [.ref 101, .ref 4]) (rest := []) (st1 := []) (m_38y (d := d + 6) (sl := 0) S (by decide) h4 (by decide) (by decide)) rfl rfl rfl (fun _ _ => rfl) rfl (by exact cl_v my_38 rfl rfl rfl (Nat.le_of_ble_eq_true rfl) rfl (MH_obj rfl rfl) rfl (by decide) rfl rfl) (by rfl) (Nat.le_of_ble_eq_true rfl) (Nat.le_of_ble_eq_true rfl) rfl (by rfl) ?_
      refine w_p (pc1 := 30) rfl rfl ?_
      refine w_t (a := 38) (b := 33) rfl rfl rfl ?_
      refine w_p (pc1 := 39) rfl rfl ?_
      refine w_r rfl rfl rfl (fun _ _ => rfl) rfl ?_
      refine ⟨vl B n i, i + 1, _, ⟨er, rfl, nxT_S S (by rw [h4]; decide) (by rw [h4]; decide), nxT_fr⟩, ?_, rfl⟩
      with_reducible rfl
    · have er : rInt (tkP B n) i = .inl (2, i) := (if_neg h57').trans (if_neg h4)
      refine w_p (pc1 := 1) rfl rfl ?_
      refine w_m0 (pc1 := 4) rfl rfl (h_gC rfl rfl rfl rfl) rfl ?_
      refine w_m0 (pc1 := 7) (st1 := .ref 57 :: _) rfl rfl rfl rfl ?_
      refine w_je (pc1 := 10) (vs := [.ref 101, .ref 57]) (rest := []) (st1 := [.int 0]) (m_44n (d := d + 7) (sl := 0) S (by decide) h57) rfl rfl rfl (fun _ _ => rfl) rfl (by exact cl_v my_44 rfl rfl rfl (Nat.le_of_ble_eq_true rfl) rfl (MH_obj rfl rfl) rfl (by decide) rfl rfl) (by rfl) (Nat.le_of_ble_eq_true rfl) (Nat.le_of_ble_eq_true rfl) rfl (by rfl) ?_
      refine w_p (pc1 := 11) (al1 := [(1, .int 0), (0, .ref 120)]) rfl rfl ?_
      refine w_p (pc1 := 12) rfl rfl ?_
      refine w_m0 (pc1 := 15) rfl rfl (h_gC rfl rfl rfl rfl) rfl ?_
      refine w_m0 (pc1 := 18) (st1 := .long (vl B n i) :: _) rfl rfl (h_gJe (j := 8) rfl rfl rfl rfl rfl (S.2.2.2.2.2.2.2)) rfl ?_
      refine w_p (pc1 := 19) (al1 := [(2, .long (vl B n i)), (1, .int 0), (0, .ref 120)]) rfl rfl ?_
      refine w_p (pc1 := 20) rfl rfl ?_
      refine w_m0 (pc1 := 23) rfl rfl (h_gC rfl rfl rfl rfl) rfl ?_
      refine w_m0 (pc1 := 26) (st1 := .ref 4 :: _) rfl rfl rfl rfl ?_
      refine w_ji (pc1 := 29) (vs := [.ref 101, .ref 4]) (rest := []) (m_38n (d := d) (sl := 0) S (by decide) h4) rfl rfl rfl (fun _ _ => rfl) rfl (by exact cl_v my_38 rfl rfl rfl (Nat.le_of_ble_eq_true rfl) rfl (MH_obj rfl rfl) rfl (by decide) rfl rfl) (by rfl) (Nat.le_of_ble_eq_true rfl) (Nat.le_of_ble_eq_true rfl) rfl (fun v h1 d1 hq => ?_) (fun a h1 d1 hq => ?_)
      · exact hq.elim
      · rcases hq with ⟨ha, hh, hn⟩
        · subst ha; subst hh; subst hn
          refine Or.inl ⟨ch_new (by decide) rfl, ?_⟩
          refine ⟨2, i, C, ⟨er, ⟨fun _ _ _ => rfl, fun _ _ _ => rfl, fun _ _ _ => rfl⟩⟩, rfl, ?_, rfl⟩
          with_reducible rfl
set_option maxRecDepth 100000 in
theorem w_lkd {pc pc0 len a : Nat} {y : mc_T} {al : List (Nat × Value)} {q : List Value} {h : ab_H} {x : Int32} {dflt : Int} {ps : Array (Int × Int)} (hf : y.2.2.find? (fun x => x.1 == pc) = some (pc0, .lookupswitch dflt ps, len)) (hs : (ps.toList.zip (ps.toList.drop 1)).all (fun (a, next) => a.1 < next.1) = true) (hx : Op.lookupswitch.offset ps.toList dflt x.toInt = dflt) (hj : ab_j pc dflt = some a) (w : Wd L xs d y (a, al, q, h, sl) P X) : Wd L xs d y (pc, al, .int x :: q, h, sl) P X :=
  w_p hf (by show ab_lk pc al dflt ps (.int x :: q) = _; unfold ab_lk; simp only; rw [if_pos hs, hx, hj]; rfl) w
set_option maxRecDepth 100000 in
theorem acN_0 : ∀ k : Fin 60, 1 ≤ k.1 → acN k.1 = none → Op.lookupswitch.offset [(21, 54), (29, 44), (30, 49), (31, 59)] 64 (tk_s.getD (k.1 - 1) 0).toInt = 64 := by decide +kernel
set_option maxRecDepth 100000 in
theorem acN_d (h : acN (kd B n i) = none) : Op.lookupswitch.offset [(21, 54), (29, 44), (30, 49), (31, 59)] 64 (tk_s.getD (kd B n i - 1) 0).toInt = 64 := acN_0 ⟨kd B n i, by have := (kd_ok (B := B) (n := n) i).2; omega⟩ (kd_ok i).1 h
set_option maxRecDepth 100000 in
theorem acN_s {k e : Nat} (h : acN k = some e) : (k = 36 ∧ e = 1) ∨ (k = 11 ∧ e = 2) ∨ (k = 27 ∧ e = 3) ∨ (k = 14 ∧ e = 4) := by
  unfold acN at h
  split at h
  · cases h; omega
  · split at h
    · cases h; omega
    · split at h
      · cases h; omega
      · split at h
        · cases h; omega
        · cases h
set_option maxRecDepth 100000 in
theorem m_77 (S : tkS B n m C i) : Wd L xs (d + 8) y_77 (0, [(0, .ref 120)], [], MH C t, sl) (PN B n m C t sl (rAcn (tkP B n) i) (fun e v => some (.int (nI e)) = v)) (XN B n m C t sl (rAcn (tkP B n) i)) := by
  have hto := tkS_tok S
  cases he : acN (kd B n i) with
  | none =>
    have er : rAcn (tkP B n) i = .inl (2, i) := by
      unfold rAcn
      rw [show acN ((tkP B n).1 i) = none from he]
    refine w_p (pc1 := 1) (st1 := .int 0 :: _) rfl rfl ?_
    refine w_p (pc1 := 2) (al1 := [(1, .int 0), (0, .ref 120)]) rfl rfl ?_
    refine w_m0 (pc1 := 5) (st1 := .ref 61 :: _) rfl rfl rfl rfl ?_
    refine w_p (pc1 := 6) rfl rfl ?_
    refine w_m0 (pc1 := 9) rfl rfl (h_gC rfl rfl rfl rfl) rfl ?_
    refine w_m0 (pc1 := 12) (st1 := .ref (kd B n i) :: _) rfl rfl (h_gRs (j := 6) rfl rfl rfl rfl rfl (hto)) rfl ?_
    refine w_c (pc1 := 15) rfl rfl rfl (fun fr lo h1 h2 => n_or rfl (kd_ok _) (by decide) h1 h2) rfl ?_
    refine w_m0 (pc1 := 16) rfl rfl (h_sw (kd_ok _)) rfl ?_
    refine w_lkd (a := 80) rfl rfl (acN_d he) rfl ?_
    refine w_p (pc1 := 81) rfl rfl ?_
    refine w_m0 (pc1 := 84) rfl rfl (h_gC rfl rfl rfl rfl) rfl ?_
    refine w_p (pc1 := 85) (st1 := .int 2 :: _) rfl rfl ?_
    refine w_ji (pc1 := 88) (vs := [.ref 101, .int 2]) (rest := []) (m_31 (d := d + 1) (sl := 0) (c := 2) S) rfl rfl rfl (fun _ _ => rfl) rfl (by exact cl_v my_31 rfl rfl rfl (Nat.le_of_ble_eq_true rfl) rfl (MH_obj rfl rfl) rfl (by decide) rfl rfl) (by rfl) (Nat.le_of_ble_eq_true rfl) (Nat.le_of_ble_eq_true rfl) rfl (fun v h1 d1 hq => ?_) (fun a h1 d1 hq => ?_)
    · exact hq.elim
    · rcases hq with ⟨ha, hh, hn⟩
      · subst ha; subst hh; subst hn
        refine Or.inl ⟨ch_new (by decide) rfl, ?_⟩
        refine ⟨2, i, ⟨er, S⟩, rfl, ?_, rfl⟩
        with_reducible rfl
  | some e =>
    have er : rAcn (tkP B n) i = .inr (e, i + 1) := by
      unfold rAcn
      rw [show acN ((tkP B n).1 i) = some e from he]
    rcases acN_s he with ⟨h1, rfl⟩ | ⟨h1, rfl⟩ | ⟨h1, rfl⟩ | ⟨h1, rfl⟩
    · rw [h1] at hto
      refine w_p (pc1 := 1) (st1 := .int 0 :: _) rfl rfl ?_
      refine w_p (pc1 := 2) (al1 := [(1, .int 0), (0, .ref 120)]) rfl rfl ?_
      refine w_m0 (pc1 := 5) (st1 := .ref 61 :: _) rfl rfl rfl rfl ?_
      refine w_p (pc1 := 6) rfl rfl ?_
      refine w_m0 (pc1 := 9) rfl rfl (h_gC rfl rfl rfl rfl) rfl ?_
      refine w_m0 (pc1 := 12) (st1 := .ref 36 :: _) rfl rfl (h_gRs (j := 6) rfl rfl rfl rfl rfl (hto)) rfl ?_
      refine w_c (pc1 := 15) rfl rfl rfl (fun fr lo h1 h2 => n_or rfl (by decide) (by decide) h1 h2) rfl ?_
      refine w_m0 (pc1 := 16) rfl rfl (h_sw (by decide)) rfl ?_
      refine w_p (pc1 := 60) rfl rfl ?_
      refine w_p (pc1 := 61) (st1 := .int 1 :: _) rfl rfl ?_
      refine w_p (pc1 := 62) (al1 := [(1, .int 1), (0, .ref 120)]) rfl rfl ?_
      refine w_p (pc1 := 88) rfl rfl ?_
      refine w_p (pc1 := 89) rfl rfl ?_
      refine w_m0 (pc1 := 92) rfl rfl (h_gC rfl rfl rfl rfl) rfl ?_
      refine w_je (pc1 := 95) (vs := [.ref 101]) (rest := []) (st1 := []) (m_21s (d := d + 7) (sl := 0) S (by rw [h1]; decide) (by rw [h1]; decide)) rfl rfl rfl (fun _ _ => rfl) rfl (by exact cl_v my_21 rfl rfl rfl (Nat.le_of_ble_eq_true rfl) rfl (MH_obj rfl rfl) rfl (by decide) rfl rfl) (by rfl) (Nat.le_of_ble_eq_true rfl) (Nat.le_of_ble_eq_true rfl) rfl (by rfl) ?_
      refine w_p (pc1 := 96) rfl rfl ?_
      refine w_r rfl rfl rfl (fun _ _ => rfl) cr_int ?_
      refine ⟨1, i + 1, _, ⟨er, rfl, nxT_S S (by rw [h1]; decide) (by rw [h1]; decide), nxT_fr⟩, ?_, rfl⟩
      with_reducible rfl
    · rw [h1] at hto
      refine w_p (pc1 := 1) (st1 := .int 0 :: _) rfl rfl ?_
      refine w_p (pc1 := 2) (al1 := [(1, .int 0), (0, .ref 120)]) rfl rfl ?_
      refine w_m0 (pc1 := 5) (st1 := .ref 61 :: _) rfl rfl rfl rfl ?_
      refine w_p (pc1 := 6) rfl rfl ?_
      refine w_m0 (pc1 := 9) rfl rfl (h_gC rfl rfl rfl rfl) rfl ?_
      refine w_m0 (pc1 := 12) (st1 := .ref 11 :: _) rfl rfl (h_gRs (j := 6) rfl rfl rfl rfl rfl (hto)) rfl ?_
      refine w_c (pc1 := 15) rfl rfl rfl (fun fr lo h1 h2 => n_or rfl (by decide) (by decide) h1 h2) rfl ?_
      refine w_m0 (pc1 := 16) rfl rfl (h_sw (by decide)) rfl ?_
      refine w_p (pc1 := 65) rfl rfl ?_
      refine w_p (pc1 := 66) (st1 := .int 2 :: _) rfl rfl ?_
      refine w_p (pc1 := 67) (al1 := [(1, .int 2), (0, .ref 120)]) rfl rfl ?_
      refine w_p (pc1 := 88) rfl rfl ?_
      refine w_p (pc1 := 89) rfl rfl ?_
      refine w_m0 (pc1 := 92) rfl rfl (h_gC rfl rfl rfl rfl) rfl ?_
      refine w_je (pc1 := 95) (vs := [.ref 101]) (rest := []) (st1 := []) (m_21s (d := d + 7) (sl := 0) S (by rw [h1]; decide) (by rw [h1]; decide)) rfl rfl rfl (fun _ _ => rfl) rfl (by exact cl_v my_21 rfl rfl rfl (Nat.le_of_ble_eq_true rfl) rfl (MH_obj rfl rfl) rfl (by decide) rfl rfl) (by rfl) (Nat.le_of_ble_eq_true rfl) (Nat.le_of_ble_eq_true rfl) rfl (by rfl) ?_
      refine w_p (pc1 := 96) rfl rfl ?_
      refine w_r rfl rfl rfl (fun _ _ => rfl) cr_int ?_
      refine ⟨2, i + 1, _, ⟨er, rfl, nxT_S S (by rw [h1]; decide) (by rw [h1]; decide), nxT_fr⟩, ?_, rfl⟩
      with_reducible rfl
    · rw [h1] at hto
      refine w_p (pc1 := 1) (st1 := .int 0 :: _) rfl rfl ?_
      refine w_p (pc1 := 2) (al1 := [(1, .int 0), (0, .ref 120)]) rfl rfl ?_
      refine w_m0 (pc1 := 5) (st1 := .ref 61 :: _) rfl rfl rfl rfl ?_
      refine w_p (pc1 := 6) rfl rfl ?_
      refine w_m0 (pc1 := 9) rfl rfl (h_gC rfl rfl rfl rfl) rfl ?_
      refine w_m0 (pc1 := 12) (st1 := .ref 27 :: _) rfl rfl (h_gRs (j := 6) rfl rfl rfl rfl rfl (hto)) rfl ?_
      refine w_c (pc1 := 15) rfl rfl rfl (fun fr lo h1 h2 => n_or rfl (by decide) (by decide) h1 h2) rfl ?_
      refine w_m0 (pc1 := 16) rfl rfl (h_sw (by decide)) rfl ?_
      refine w_p (pc1 := 70) rfl rfl ?_
      refine w_p (pc1 := 71) (st1 := .int 3 :: _) rfl rfl ?_
      refine w_p (pc1 := 72) (al1 := [(1, .int 3), (0, .ref 120)]) rfl rfl ?_
      refine w_p (pc1 := 88) rfl rfl ?_
      refine w_p (pc1 := 89) rfl rfl ?_
      refine w_m0 (pc1 := 92) rfl rfl (h_gC rfl rfl rfl rfl) rfl ?_
      refine w_je (pc1 := 95) (vs := [.ref 101]) (rest := []) (st1 := []) (m_21s (d := d + 7) (sl := 0) S (by rw [h1]; decide) (by rw [h1]; decide)) rfl rfl rfl (fun _ _ => rfl) rfl (by exact cl_v my_21 rfl rfl rfl (Nat.le_of_ble_eq_true rfl) rfl (MH_obj rfl rfl) rfl (by decide) rfl rfl) (by rfl) (Nat.le_of_ble_eq_true rfl) (Nat.le_of_ble_eq_true rfl) rfl (by rfl) ?_
      refine w_p (pc1 := 96) rfl rfl ?_
      refine w_r rfl rfl rfl (fun _ _ => rfl) cr_int ?_
      refine ⟨3, i + 1, _, ⟨er, rfl, nxT_S S (by rw [h1]; decide) (by rw [h1]; decide), nxT_fr⟩, ?_, rfl⟩
      with_reducible rfl
    · rw [h1] at hto
      refine w_p (pc1 := 1) (st1 := .int 0 :: _) rfl rfl ?_
      refine w_p (pc1 := 2) (al1 := [(1, .int 0), (0, .ref 120)]) rfl rfl ?_
      refine w_m0 (pc1 := 5) (st1 := .ref 61 :: _) rfl rfl rfl rfl ?_
      refine w_p (pc1 := 6) rfl rfl ?_
      refine w_m0 (pc1 := 9) rfl rfl (h_gC rfl rfl rfl rfl) rfl ?_
      refine w_m0 (pc1 := 12) (st1 := .ref 14 :: _) rfl rfl (h_gRs (j := 6) rfl rfl rfl rfl rfl (hto)) rfl ?_
      refine w_c (pc1 := 15) rfl rfl rfl (fun fr lo h1 h2 => n_or rfl (by decide) (by decide) h1 h2) rfl ?_
      refine w_m0 (pc1 := 16) rfl rfl (h_sw (by decide)) rfl ?_
      refine w_p (pc1 := 75) rfl rfl ?_
      refine w_p (pc1 := 76) (st1 := .int 4 :: _) rfl rfl ?_
      refine w_p (pc1 := 77) (al1 := [(1, .int 4), (0, .ref 120)]) rfl rfl ?_
      refine w_p (pc1 := 88) rfl rfl ?_
      refine w_p (pc1 := 89) rfl rfl ?_
      refine w_m0 (pc1 := 92) rfl rfl (h_gC rfl rfl rfl rfl) rfl ?_
      refine w_je (pc1 := 95) (vs := [.ref 101]) (rest := []) (st1 := []) (m_21s (d := d + 7) (sl := 0) S (by rw [h1]; decide) (by rw [h1]; decide)) rfl rfl rfl (fun _ _ => rfl) rfl (by exact cl_v my_21 rfl rfl rfl (Nat.le_of_ble_eq_true rfl) rfl (MH_obj rfl rfl) rfl (by decide) rfl rfl) (by rfl) (Nat.le_of_ble_eq_true rfl) (Nat.le_of_ble_eq_true rfl) rfl (by rfl) ?_
      refine w_p (pc1 := 96) rfl rfl ?_
      refine w_r rfl rfl rfl (fun _ _ => rfl) cr_int ?_
      refine ⟨4, i + 1, _, ⟨er, rfl, nxT_S S (by rw [h1]; decide) (by rw [h1]; decide), nxT_fr⟩, ?_, rfl⟩
      with_reducible rfl
end NUM
