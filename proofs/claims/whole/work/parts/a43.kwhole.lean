
/-! ONE SIDE: whole sums, whole tests -/
section WHL
variable {L : Nat} {xs : Nat → Int32} {B : Nat → Nat} {n m : Nat} {C C' C0 : co_T} {t : ab_H} {d sl i j f : Nat} {E : fe_T} {nl : Option Nat} {b : Bool} {z : fs_T} {c : Int32}
set_option maxRecDepth 100000 in
theorem tkS_F (T : tkS B n m C i) (h : ∀ k j, k ≤ 5 → C'.1 k j = C.1 k j) (h2 : C'.2 = C.2) : tkS B n m C' i := tkS_fr T h h2
set_option maxRecDepth 100000 in
theorem FK_0 (T : tkS B n m C i) (hl : lfK (C.1 21 6) nl) : FK B n m (sI (sI C 21 4 0) 21 5 0) (sI (sI C 21 4 0) 21 5 0) (i, [], 0, nl) := by
  refine ⟨tkS_F T (fun k j h => by rw [sI_1, if_neg (by omega), sI_1, if_neg (by omega)]) rfl, Nat.zero_le _, rfl, (fun j q h => by cases h), rfl, Nat.zero_le _, ?_, frF_r⟩
  rw [sI_1, if_neg (by omega), sI_1, if_neg (by omega)]
  exact hl
set_option maxRecDepth 100000 in
theorem colK_f {x y : Int32} (hx : y = x) (h8 : ∀ j, C'.1 8 j = C.1 8 j) (h9 : ∀ j, C'.2.1 9 j = C.2.1 9 j) : ∀ {g : Option (Int64 → Int32)}, colK C x g → colK C' y g
  | none, e => hx.trans e
  | some g, ⟨b, w, h1, h2, h3, h4, h5⟩ => ⟨b, w, h1, h2, hx.trans h3, (h8 b).trans h4, by rw [show C'.2.1 9 = C.2.1 9 from funext h9]; exact h5⟩
set_option maxRecDepth 100000 in
theorem eK_f (e : eK B n C E) (h1 : ∀ j, 7 ≤ j → j ≤ 9 → C'.1 21 j = C.1 21 j) (h8 : ∀ j, C'.1 8 j = C.1 8 j) (h9 : ∀ j, C'.2.1 9 j = C.2.1 9 j) : eK B n C' E := by
  obtain ⟨a1, a2, a3, a4, a5, a6⟩ := e
  refine ⟨a1, a2, colK_f (h1 7 (by omega) (by omega)) h8 h9 a3, colK_f (h1 8 (by omega) (by omega)) h8 h9 a4, ?_, ?_⟩
  · rw [h1 8 (by omega) (by omega), h1 9 (by omega) (by omega)]
    exact a5
  · rw [h1 8 (by omega) (by omega), h1 9 (by omega) (by omega)]
    exact a6
set_option maxRecDepth 100000 in
theorem eK_F (e : eK B n C E) (h : frF C C') : eK B n C' E := eK_f e (fun j _ _ => h.1 21 j (by omega) (by omega) (by omega) (by omega)) (fun j => h.1 8 j (by omega) (by omega) (by omega) (by omega)) (fun j => h.2.1 9 j (by omega))
set_option maxRecDepth 100000 in
theorem frF_0 : frF C (sI (sI C 21 4 0) 21 5 0) := frF_t (frF_I (by omega)) (frF_I (by omega))
set_option maxRecDepth 100000 in
theorem eK_0 (e : eK B n C E) : eK B n (sI (sI C 21 4 0) 21 5 0) E := eK_F e frF_0
/-! a formula was read and built; how it stands then -/
def FSP (B : Nat → Nat) (n m : Nat) (C : co_T) (t : ab_H) (sl : Nat) (b : Bool) (z : fs_T) : Option Value → ab_H → Nat → Prop := fun v h q => some (.ref (241 + t.length)) = v ∧ (∃ C' t', (tkS B n m C' z.1 ∧ lfK (C'.1 21 6) z.2.2.2 ∧ frF C C' ∧ (∃ s, FO t' t.length (t.length + 1) (t.length + 2) (t.length + 3) z.2.1 (ck b) s) ∧ tlE t t' ∧ t'.length = t.length + 4) ∧ MH C' t' = h) ∧ sl + (4 + 3 * z.2.1.length) = q
set_option maxRecDepth 100000 in
theorem m_83 (T : tkS B n m C i) (e : eK B n C E) (hl : lfK (C.1 21 6) nl) (hb : C.1 21 10 = ck b) (hi : 1 ≤ i) (h : rd E f 3 (i, [], 0, nl) = .inr z) : Wd L xs (d + 55) y_83 (0, [(0, .ref 121)], [], MH C t, sl) (FSP B n m C t sl b z) nX := by
  have hfm := Wd_up (d := d + 54) (by show 4 * (10 - 0) + 14 ≤ _; omega) ((form (L := L) (xs := xs) (t := t) (m := m) (eK_0 e) f).2.2.2.1.1 _ z _ h (FK_0 T hl))
  have hle := rd_fle f 3 _ z h
  have hle1 : i ≤ z.1 := hle.1
  have hle2 : z.2.1.length + i ≤ 0 + z.1 := hle.2.1
  refine w_p (pc1 := 1) rfl rfl ?_
  refine w_p (pc1 := 2) (st1 := .int 0 :: _) rfl rfl ?_
  refine w_m0 (pc1 := 5) rfl rfl (h_pI (j := 4) rfl rfl rfl rfl rfl rfl rfl ⟨rfl, rfl⟩ rfl) rfl ?_
  refine w_p (pc1 := 6) rfl rfl ?_
  refine w_p (pc1 := 7) (st1 := .int 0 :: _) rfl rfl ?_
  refine w_m0 (pc1 := 10) rfl rfl (h_pI (j := 5) rfl rfl rfl rfl rfl rfl rfl ⟨rfl, rfl⟩ rfl) rfl ?_
  refine w_p (pc1 := 11) rfl rfl ?_
  refine w_ji (pc1 := 14) (vs := [.ref 121]) (rest := []) (hfm) rfl rfl rfl (fun _ _ => rfl) rfl (by exact cl_v my_62 rfl rfl rfl (Nat.le_of_ble_eq_true rfl) rfl (MH_obj rfl rfl) rfl (by decide) rfl rfl) (by rfl) (Nat.le_of_ble_eq_true rfl) (Nat.le_of_ble_eq_true rfl) rfl (fun v h q hq => ?_) (fun _ _ _ e => e.elim)
  obtain ⟨rfl, ⟨C1, F1, rfl⟩, rfl⟩ := hq
  have h600 := tkS_600 F1.1
  have him := F1.1.2.2.2.1
  have hbl := m_70 (L := L) (xs := xs) (C := C1) (t := t) (d := d + 52) (sl := 0) (b := b) (O := z.2.1) F1.2.2.1 (by omega) F1.2.2.2.1 ((F1.2.2.2.2.2.2.2.1 21 10 (by decide) (by decide) (by decide) (by decide)).trans hb)
  refine w_p (pc1 := 15) rfl rfl ?_
  refine w_ji (pc1 := 18) (vs := [.ref 121]) (rest := []) (hbl) rfl rfl rfl (fun _ _ => rfl) rfl (by exact cl_v my_70 rfl rfl rfl (Nat.le_of_ble_eq_true rfl) rfl (MH_obj rfl rfl) rfl (by decide) rfl rfl) (by rfl) (Nat.le_of_ble_eq_true rfl) (Nat.le_of_ble_eq_true rfl) rfl (fun v h q hq => ?_) (fun _ _ _ e => e.elim)
  obtain ⟨rfl, ⟨t1, ⟨g1, g2, g3⟩, rfl⟩, rfl⟩ := hq
  refine w_r rfl rfl rfl (fun _ _ => rfl) rfl ?_
  refine ⟨rfl, ⟨C1, t1, ⟨F1.1, F1.2.2.2.2.2.2.1, frF_t frF_0 F1.2.2.2.2.2.2.2, g1, g2, g3⟩, ?_⟩, by omega⟩
  with_reducible rfl
set_option maxRecDepth 100000 in
theorem m_83e (T : tkS B n m C i) (e : eK B n C E) (hl : lfK (C.1 21 6) nl) (hc : c ≠ 0) (h : rd E f 3 (i, [], 0, nl) = .inl (c, j)) : Wd L xs (d + 55) y_83 (0, [(0, .ref 121)], [], MH C t, sl) nP (XFK B n m C t sl c j) := by
  have hfm := Wd_up (d := d + 54) (by show 4 * (10 - 0) + 14 ≤ _; omega) ((form (L := L) (xs := xs) (t := t) (m := m) (eK_0 e) f).2.2.2.1.2 _ c j _ h hc (FK_0 T hl))
  refine w_p (pc1 := 1) rfl rfl ?_
  refine w_p (pc1 := 2) (st1 := .int 0 :: _) rfl rfl ?_
  refine w_m0 (pc1 := 5) rfl rfl (h_pI (j := 4) rfl rfl rfl rfl rfl rfl rfl ⟨rfl, rfl⟩ rfl) rfl ?_
  refine w_p (pc1 := 6) rfl rfl ?_
  refine w_p (pc1 := 7) (st1 := .int 0 :: _) rfl rfl ?_
  refine w_m0 (pc1 := 10) rfl rfl (h_pI (j := 5) rfl rfl rfl rfl rfl rfl rfl ⟨rfl, rfl⟩ rfl) rfl ?_
  refine w_p (pc1 := 11) rfl rfl ?_
  refine w_ji (pc1 := 14) (vs := [.ref 121]) (rest := []) (hfm) rfl rfl rfl (fun _ _ => rfl) rfl (by exact cl_v my_62 rfl rfl rfl (Nat.le_of_ble_eq_true rfl) rfl (MH_obj rfl rfl) rfl (by decide) rfl rfl) (by rfl) (Nat.le_of_ble_eq_true rfl) (Nat.le_of_ble_eq_true rfl) rfl (fun v h1 d1 hq => ?_) (fun a h1 d1 hq => ?_)
  · exact hq.elim
  · rcases hq with ⟨C1, f1, s1, ha, hh, hn⟩
    · subst ha; subst hh; subst hn
      refine Or.inl ⟨ch_new (by decide) rfl, ?_⟩
      refine ⟨C1, frF_t frF_0 f1, s1, rfl, ?_, by omega⟩
      with_reducible rfl
set_option maxRecDepth 100000 in
theorem m_55 (T : tkS B n m C i) (e : eK B n C E) (hl : lfK (C.1 21 6) nl) (hb : C.1 21 10 = ck b) (hi : 1 ≤ i) (h : rd E f 8 (i, [], 0, nl) = .inr z) : Wd L xs (d + 59) y_55 (0, [(0, .ref 121)], [], MH C t, sl) (FSP B n m C t sl b z) nX := by
  have hfm := Wd_up (d := d + 58) (by show 4 * (10 - 0) + 18 ≤ _; omega) ((form (L := L) (xs := xs) (t := t) (m := m) (eK_0 e) f).2.2.2.2.2.2.2.2.1.1 _ z _ h (FK_0 T hl))
  have hle := rd_fle f 8 _ z h
  have hle1 : i ≤ z.1 := hle.1
  have hle2 : z.2.1.length + i ≤ 0 + z.1 := hle.2.1
  refine w_p (pc1 := 1) rfl rfl ?_
  refine w_p (pc1 := 2) (st1 := .int 0 :: _) rfl rfl ?_
  refine w_m0 (pc1 := 5) rfl rfl (h_pI (j := 4) rfl rfl rfl rfl rfl rfl rfl ⟨rfl, rfl⟩ rfl) rfl ?_
  refine w_p (pc1 := 6) rfl rfl ?_
  refine w_p (pc1 := 7) (st1 := .int 0 :: _) rfl rfl ?_
  refine w_m0 (pc1 := 10) rfl rfl (h_pI (j := 5) rfl rfl rfl rfl rfl rfl rfl ⟨rfl, rfl⟩ rfl) rfl ?_
  refine w_p (pc1 := 11) rfl rfl ?_
  refine w_ji (pc1 := 14) (vs := [.ref 121]) (rest := []) (hfm) rfl rfl rfl (fun _ _ => rfl) rfl (by exact cl_v my_56 rfl rfl rfl (Nat.le_of_ble_eq_true rfl) rfl (MH_obj rfl rfl) rfl (by decide) rfl rfl) (by rfl) (Nat.le_of_ble_eq_true rfl) (Nat.le_of_ble_eq_true rfl) rfl (fun v h q hq => ?_) (fun _ _ _ e => e.elim)
  obtain ⟨rfl, ⟨C1, F1, rfl⟩, rfl⟩ := hq
  have h600 := tkS_600 F1.1
  have him := F1.1.2.2.2.1
  have hbl := m_70 (L := L) (xs := xs) (C := C1) (t := t) (d := d + 56) (sl := 0) (b := b) (O := z.2.1) F1.2.2.1 (by omega) F1.2.2.2.1 ((F1.2.2.2.2.2.2.2.1 21 10 (by decide) (by decide) (by decide) (by decide)).trans hb)
  refine w_p (pc1 := 15) rfl rfl ?_
  refine w_ji (pc1 := 18) (vs := [.ref 121]) (rest := []) (hbl) rfl rfl rfl (fun _ _ => rfl) rfl (by exact cl_v my_70 rfl rfl rfl (Nat.le_of_ble_eq_true rfl) rfl (MH_obj rfl rfl) rfl (by decide) rfl rfl) (by rfl) (Nat.le_of_ble_eq_true rfl) (Nat.le_of_ble_eq_true rfl) rfl (fun v h q hq => ?_) (fun _ _ _ e => e.elim)
  obtain ⟨rfl, ⟨t1, ⟨g1, g2, g3⟩, rfl⟩, rfl⟩ := hq
  refine w_r rfl rfl rfl (fun _ _ => rfl) rfl ?_
  refine ⟨rfl, ⟨C1, t1, ⟨F1.1, F1.2.2.2.2.2.2.1, frF_t frF_0 F1.2.2.2.2.2.2.2, g1, g2, g3⟩, ?_⟩, by omega⟩
  with_reducible rfl
set_option maxRecDepth 100000 in
theorem m_55e (T : tkS B n m C i) (e : eK B n C E) (hl : lfK (C.1 21 6) nl) (hc : c ≠ 0) (h : rd E f 8 (i, [], 0, nl) = .inl (c, j)) : Wd L xs (d + 59) y_55 (0, [(0, .ref 121)], [], MH C t, sl) nP (XFK B n m C t sl c j) := by
  have hfm := Wd_up (d := d + 58) (by show 4 * (10 - 0) + 18 ≤ _; omega) ((form (L := L) (xs := xs) (t := t) (m := m) (eK_0 e) f).2.2.2.2.2.2.2.2.1.2 _ c j _ h hc (FK_0 T hl))
  refine w_p (pc1 := 1) rfl rfl ?_
  refine w_p (pc1 := 2) (st1 := .int 0 :: _) rfl rfl ?_
  refine w_m0 (pc1 := 5) rfl rfl (h_pI (j := 4) rfl rfl rfl rfl rfl rfl rfl ⟨rfl, rfl⟩ rfl) rfl ?_
  refine w_p (pc1 := 6) rfl rfl ?_
  refine w_p (pc1 := 7) (st1 := .int 0 :: _) rfl rfl ?_
  refine w_m0 (pc1 := 10) rfl rfl (h_pI (j := 5) rfl rfl rfl rfl rfl rfl rfl ⟨rfl, rfl⟩ rfl) rfl ?_
  refine w_p (pc1 := 11) rfl rfl ?_
  refine w_ji (pc1 := 14) (vs := [.ref 121]) (rest := []) (hfm) rfl rfl rfl (fun _ _ => rfl) rfl (by exact cl_v my_56 rfl rfl rfl (Nat.le_of_ble_eq_true rfl) rfl (MH_obj rfl rfl) rfl (by decide) rfl rfl) (by rfl) (Nat.le_of_ble_eq_true rfl) (Nat.le_of_ble_eq_true rfl) rfl (fun v h1 d1 hq => ?_) (fun a h1 d1 hq => ?_)
  · exact hq.elim
  · rcases hq with ⟨C1, f1, s1, ha, hh, hn⟩
    · subst ha; subst hh; subst hn
      refine Or.inl ⟨ch_new (by decide) rfl, ?_⟩
      refine ⟨C1, frF_t frF_0 f1, s1, rfl, ?_, by omega⟩
      with_reducible rfl
end WHL
