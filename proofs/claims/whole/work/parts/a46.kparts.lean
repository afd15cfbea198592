
/-! ONE SIDE: a change is read, 2: the parts of an insert -/
def gj (i : Nat) (r : fr_T) : Prop := ∀ c j, r = .inl (c, j) → c ≠ 0 → i ≤ j
section GJ
variable {E : fe_T} {i i' w : Nat} {r : fr_T} {g : fs_T → fr_T} {s : fs_T} {a b : Int32}
set_option maxRecDepth 100000 in
theorem gj_b (h : gj i r) (k : ∀ s, r = .inr s → gj i (g s)) : gj i (bnd r g) := by
  intro c j e hc
  rcases bnd_e e with h1 | ⟨s, h1, h2⟩
  · exact h c j h1 hc
  · exact k s h1 c j h2 hc
set_option maxRecDepth 100000 in
theorem gj_r : gj i (.inr s) := fun c j e => by cases e
set_option maxRecDepth 100000 in
theorem gj_l {c : Int32} {j : Nat} (h : i ≤ j) : gj i (.inl (c, j)) := fun c' j' e _ => by cases e; exact h
set_option maxRecDepth 100000 in
theorem gj_m (h : i ≤ i') (k : gj i' r) : gj i r := fun c j e hc => Nat.le_trans h (k c j e hc)
set_option maxRecDepth 100000 in
theorem gj_spd : gj s.1 (spd s) := by
  unfold spd
  split
  · exact gj_r
  · exact gj_l (Nat.le_refl _)
  · exact gj_r
set_option maxRecDepth 100000 in
theorem gj_gin : gj s.1 (gin s) := by
  unfold gin
  split
  · exact gj_l (Nat.le_refl _)
  · exact gj_r
set_option maxRecDepth 100000 in
theorem gj_xpt : gj s.1 (xpt E w s) := by
  unfold xpt
  split
  · exact gj_r
  · exact gj_l (Nat.le_refl _)
set_option maxRecDepth 100000 in
theorem gj_lef : gj s.1 (lef s a b) := gj_b gj_spd (fun _ _ => gj_r)
set_option maxRecDepth 100000 in
theorem gj_lfc {q : Option (Int64 → Int32)} : gj s.1 (lfc E q s a) := by
  unfold lfc
  split
  · rename_i e h
    unfold clm at h
    split at h
    · split at h
      · cases h; exact gj_l (Nat.le_refl _)
      · split at h
        · cases h; exact gj_l (Nat.le_refl _)
        · cases h
    · cases h; exact gj_l (Nat.le_refl _)
  · exact gj_lef
set_option maxRecDepth 100000 in
theorem gj_nsm : gj s.1 (nsm E s) := by
  unfold nsm
  split
  · exact gj_r
  · exact gj_b gj_xpt (fun _ _ => gj_r)
set_option maxRecDepth 100000 in
theorem gin_1 {z : fs_T} (h : gin s = .inr z) : z.1 = s.1 := by rw [(gin_s h).1]
set_option maxRecDepth 100000 in
theorem nxt_1 : (nxt s).1 = s.1 + 1 := rfl
set_option maxRecDepth 100000 in
theorem rd_gj : ∀ (f md : Nat) (s : fs_T), gj s.1 (rd E f md s)
  | 0, _, _ => fun c j e hc => by cases e; exact absurd rfl hc
  | f + 1, md, s => by
    have ih := rd_gj f
    have up : ∀ (md : Nat) (y : fs_T), s.1 ≤ y.1 → gj s.1 (rd E f md y) := fun md y h => gj_m h (ih md y)
    have sgn : ∀ (md md2 : Nat) (o1 : Int32), gj s.1 (bnd (spd s) (fun z => bnd (rd E f md (nxt z)) (fun z => rd E f md2 (emt z o1 0)))) := fun md md2 o1 => gj_b gj_spd (fun y h1 => gj_b (up _ _ (by rw [nxt_1, (spd_s h1).1]; omega)) (fun x h2 => up _ _ (by
      have := (rd_fle _ _ _ _ h2).1
      rw [nxt_1, (spd_s h1).1] at this
      show s.1 ≤ x.1
      omega)))
    have inn : ∀ (md w : Nat), gj s.1 (bnd (gin s) (fun s => bnd (rd E f md (nxt s)) (fun s => bnd (xpt E w s) (fun s => .inr (gou s))))) := fun md w => gj_b gj_gin (fun y h1 => gj_b (up _ _ (by rw [nxt_1, gin_1 h1]; omega)) (fun x h2 => gj_b (gj_m (by
      have := (rd_fle _ _ _ _ h2).1
      rw [nxt_1, gin_1 h1] at this
      omega) gj_xpt) (fun _ _ => gj_r)))
    have una : ∀ (md : Nat) (o1 : Int32), gj s.1 (bnd (gin s) (fun s => bnd (spd s) (fun s => bnd (rd E f md (nxt s)) (fun s => .inr (gou (emt s o1 0)))))) := fun md o1 => gj_b gj_gin (fun y h1 => gj_b (gj_m (by rw [gin_1 h1]; exact Nat.le_refl _) gj_spd) (fun x h2 => gj_b (up _ _ (by rw [nxt_1, (spd_s h2).1, gin_1 h1]; omega)) (fun _ _ => gj_r)))
    have two : ∀ (md md2 : Nat), gj s.1 (bnd (rd E f md s) (rd E f md2)) := fun md md2 => gj_b (ih md s) (fun y h => up _ _ (rd_fle _ _ _ _ h).1)
    have dot : ∀ (o1 : Int32), gj s.1 (bnd (xpt E 49 (nxt s)) (fun s => lfc E E.2.2.2.1 s o1)) := fun o1 => gj_b (gj_m (by rw [nxt_1]; omega) gj_xpt) (fun y h1 => by
      have := xpt_s h1
      subst this
      exact gj_m (by rw [nxt_1, nxt_1]; omega) gj_lfc)
    unfold rd
    split
    · split
      · exact gj_lef
      split
      · exact gj_lef
      split
      · exact gj_lfc
      split
      · split
        · exact dot 3
        · exact gj_l (Nat.le_refl _)
      split
      · split
        · exact dot 4
        · exact gj_l (Nat.le_refl _)
      split
      · exact una 0 5
      split
      · exact inn 3 45
      · exact gj_l (Nat.le_refl _)
    · exact two 0 2
    · split
      · exact sgn 0 2 _
      · exact gj_r
    · exact two 1 4
    · split
      · exact sgn 1 4 _
      · exact gj_r
    · split
      · exact una 5 6
      split
      · exact inn 8 47
      · refine gj_b (ih 3 s) (fun y h1 => ?_)
        have hy := (rd_fle _ _ _ _ h1).1
        split
        · exact gj_l hy
        · refine gj_b (gj_m hy gj_spd) (fun x h2 => ?_)
          have hx := (spd_s h2).1
          split
          · exact gj_m (by rw [nxt_1, hx]; omega) gj_nsm
          · exact gj_b (up _ _ (by rw [nxt_1, hx]; omega)) (fun _ _ => gj_r)
    · exact two 5 7
    · split
      · exact sgn 5 7 _
      · exact gj_r
    · exact two 6 9
    · split
      · exact sgn 6 9 _
      · exact gj_r
end GJ
set_option maxRecDepth 100000 in
theorem rd_ij {E : fe_T} {f md j : Nat} {s : fs_T} {c : Int32} (h : rd E f md s = .inl (c, j)) (hc : c ≠ 0) : s.1 ≤ j := rd_gj f md s c j h hc
set_option maxRecDepth 100000 in
theorem rd_p1 {E : fe_T} {B : Nat → Nat} {n m i f md : Nat} {C : co_T} {l : List (Int32 × Int32)} {q : Nat} {nl : Option Nat} {z : fs_T} (hE1 : E.1 = kd B n) (S : tkS B n m C i) (hmd : md = 3 ∨ md = 8) (hr : rd E f md (i, l, q, nl) = .inr z) : i + 1 ≤ z.1 ∧ z.1 ≤ m := by
  have := rd_pr (E := E) (m := m) (by rw [hE1]; exact S.2.1.2) f md _ z (by omega) S.2.2.2.1 hr
  rcases hmd with rfl | rfl
  · exact ⟨this.2, this.1⟩
  · exact ⟨this.2, this.1⟩
def nzp {α : Type} (r : pz_T α) : Prop := ∀ j, r ≠ .inl (0, j)
set_option maxRecDepth 100000 in
theorem nzp_b {α β : Type} {r : pz_T α} {g : α → pz_T β} (h : nzp (pb r g)) : nzp r := fun j e => h j (pb_l e)
set_option maxRecDepth 100000 in
theorem nzp_g {α β : Type} {r : pz_T α} {g : α → pz_T β} {a : α} (e : r = .inr a) (h : nzp (pb r g)) : nzp (g a) := fun j e2 => h j ((pb_r e).trans e2)
section PRT
variable {L : Nat} {xs : Nat → Int32} {B : Nat → Nat} {n m : Nat} {C C' C0 : co_T} {t t0 : ab_H} {d sl sl0 i i0 j b k k0 kc ks w : Nat} {sc : sc_T} {row : Option Nat} {tg : Option (Nat × Nat)} {nl : Option Nat} {kd0 tb0 : Int32} {P : Option Value → ab_H → Nat → Prop} {X : Nat → ab_H → Nat → Prop} {pre : List (Option (List op_T))} {s : Option (List op_T)} {E : fe_T}
set_option maxRecDepth 100000 in
theorem a86n (hk : k0 ≠ ks ∧ k0 ≠ kc ∧ ks ≠ kc) (A : PAs B n m C0 t0 i0 sl0 k0 kc ks kd0 tb0 pre i nl C t sl) (h2 : pre.length + 2 ≤ i) (hs : foK t 0 (.null) s) (h600 : pre.length < 600) (H : ∀ t', PAs B n m C0 t0 i0 sl0 k0 kc ks kd0 tb0 (pre ++ [s]) i nl C t' sl → Wd L xs (d + 57) y_86 (85, [(4, .int (nI (pre.length))), (3, .int 1), (2, .int (nI (pre.length + 1))), (0, .ref 120), (1, .ref (241 + k0))], [], MH C t', sl) P X) : Wd L xs (d + 57) y_86 (53, [(4, .int (nI (pre.length))), (3, .int 1), (2, .int (nI (pre.length))), (0, .ref 120), (1, .ref (241 + k0))], [.null], MH C t, sl) P X := by
  obtain ⟨hT, ⟨fc, fs, A1, A2, A3⟩, B1, B2, B3, B4, B5, B6⟩ := A
  by_cases h6 : pre.length < 6
  · obtain ⟨fs', Z1, Z2, Z3⟩ := PAs_p (v := none) (s := s) (i2 := i) (nl2 := nl) (C1 := C) (sl1 := sl) A1 A2 A3 hk hs h6
    obtain ⟨t1, e1, g1, p1, l1⟩ := tl_st A1.2.2 (.inl (8, 6, .inr (.inr (.inr (.inr (va_up fs pre.length none))))))
    have A1' : AP t1 k0 kc ks kd0 tb0 fc (va_up fs pre.length none) (nI (min pre.length 6)) .null 0 := ⟨p1 _ _ hk.1 A1.1, p1 _ _ (Ne.symm hk.2.2) A1.2.1, g1⟩
    obtain ⟨t2, e2, g2, p2, l2⟩ := tl_st A1'.1 (.inr (9, [.int kd0, .int tb0, .ref (241 + kc), .ref (241 + ks), .int (nI (pre.length + 1)), .null, .int 0]))
    rw [e1, e2] at Z1 Z2
    have HH := H t2 ⟨hT, ⟨fc, fs', Z1, Z2, Z3⟩, fun j x h1 h2 h => p2 _ _ h1 (p1 _ _ h2 (B1 j x h1 h2 h)), by omega, by omega, B4, B5, by rw [len_s]; omega⟩

    refine w_p (pc1 := 55) (al1 := [(5, .null), (4, .int (nI (pre.length))), (3, .int 1), (2, .int (nI (pre.length))), (0, .ref 120), (1, .ref (241 + k0))]) rfl rfl ?_
    refine w_p (pc1 := 57) rfl rfl ?_
    refine w_p (pc1 := 58) rfl rfl ?_
    refine w_m0 (pc1 := 61) (st1 := .ref (241 + ks) :: _) rfl rfl (x_gf (k := k0) rfl A1.1 rfl) rfl ?_
    refine w_m0 (pc1 := 62) (st1 := .int (nI (6)) :: _) rfl rfl (x_ln (k := ks) A1.2.2 (by decide)) rfl ?_
    refine w_f (a := 82) (b := 65) (bN_ge_f (a := pre.length) (b := 6) (by omega) (by omega) (by omega)) rfl rfl ?_
    refine w_p (pc1 := 66) rfl rfl ?_
    refine w_m0 (pc1 := 69) (st1 := .ref (241 + ks) :: _) rfl rfl (x_gf (k := k0) rfl A1.1 rfl) rfl ?_
    refine w_p (pc1 := 71) rfl rfl ?_
    refine w_p (pc1 := 73) rfl rfl ?_
    refine w_m0 (pc1 := 74) rfl rfl (x_asn (k := ks) (e := pre.length) A1.2.2 (by decide) (by omega) (by omega)) rfl ?_
    rw [e1]
    refine w_p (pc1 := 75) rfl rfl ?_
    refine w_p (pc1 := 77) rfl rfl ?_
    refine w_p (pc1 := 78) (st1 := .int 1 :: _) rfl rfl ?_
    refine w_iadd (pc1 := 79) (u := nI (pre.length)) (v := nI (1)) (z := nI (pre.length + 1)) rfl (nK_add) rfl ?_
    refine w_m0 (pc1 := 82) rfl rfl (x_pf (k := k0) (fs' := [.int (kd0), .int (tb0), .ref (241 + kc), .ref (241 + ks), .int (nI (pre.length + 1)), .null, .int 0]) rfl A1'.1 rfl rfl ⟨rfl, rfl⟩ (Or.inl rfl) (Nat.le_of_ble_eq_true rfl) rfl) rfl ?_
    rw [e2]
    refine w_iinc (pc1 := 85) (u := nI (pre.length)) (z := nI (pre.length + 1)) (al1 := [(2, .int (nI (pre.length + 1))), (5, .null), (4, .int (nI (pre.length))), (3, .int 1), (0, .ref 120), (1, .ref (241 + k0))]) rfl rfl rfl nK_1 rfl rfl ?_
    refine Wd_al (al := [(4, .int (nI (pre.length))), (3, .int 1), (2, .int (nI (pre.length + 1))), (0, .ref 120), (1, .ref (241 + k0))]) (sba_p [2, 3, 0, 4, 5] rfl rfl) ?_
    exact HH
  · have A1' : AP t k0 kc ks kd0 tb0 fc fs (nI (min (pre ++ [s]).length 6)) .null 0 := by
      rw [len_s, show min (pre.length + 1) 6 = min pre.length 6 by omega]
      exact A1
    have HH := H t ⟨hT, ⟨fc, fs, A1', fun j x hj h6j => by
      rw [List.getElem?_append_left (by omega)] at hj
      exact A2 j x hj h6j, fun j hj => A3 j (by rw [len_s] at hj; omega)⟩, B1, B2, B3, B4, B5, by rw [len_s]; omega⟩
    refine w_p (pc1 := 55) (al1 := [(5, .null), (4, .int (nI (pre.length))), (3, .int 1), (2, .int (nI (pre.length))), (0, .ref 120), (1, .ref (241 + k0))]) rfl rfl ?_
    refine w_p (pc1 := 57) rfl rfl ?_
    refine w_p (pc1 := 58) rfl rfl ?_
    refine w_m0 (pc1 := 61) (st1 := .ref (241 + ks) :: _) rfl rfl (x_gf (k := k0) rfl A1.1 rfl) rfl ?_
    refine w_m0 (pc1 := 62) (st1 := .int (nI (6)) :: _) rfl rfl (x_ln (k := ks) A1.2.2 (by decide)) rfl ?_
    refine w_t (a := 82) (b := 65) (bN_ge_t (a := pre.length) (b := 6) (by omega) (by omega) (by omega)) rfl rfl ?_
    refine w_iinc (pc1 := 85) (u := nI (pre.length)) (z := nI (pre.length + 1)) (al1 := [(2, .int (nI (pre.length + 1))), (5, .null), (4, .int (nI (pre.length))), (3, .int 1), (0, .ref 120), (1, .ref (241 + k0))]) rfl rfl rfl nK_1 rfl rfl ?_
    refine Wd_al (al := [(4, .int (nI (pre.length))), (3, .int 1), (2, .int (nI (pre.length + 1))), (0, .ref 120), (1, .ref (241 + k0))]) (sba_p [2, 3, 0, 4, 5] rfl rfl) ?_
    exact HH
set_option maxRecDepth 100000 in
theorem a86s {kf : Nat} (hk : k0 ≠ ks ∧ k0 ≠ kc ∧ ks ≠ kc) (A : PAs B n m C0 t0 i0 sl0 k0 kc ks kd0 tb0 pre i nl C t sl) (h2 : pre.length + 2 ≤ i) (hs : foK t 0 (.ref (241 + kf)) s) (h600 : pre.length < 600) (H : ∀ t', PAs B n m C0 t0 i0 sl0 k0 kc ks kd0 tb0 (pre ++ [s]) i nl C t' sl → Wd L xs (d + 57) y_86 (85, [(4, .int (nI (pre.length))), (3, .int 1), (2, .int (nI (pre.length + 1))), (0, .ref 120), (1, .ref (241 + k0))], [], MH C t', sl) P X) : Wd L xs (d + 57) y_86 (53, [(4, .int (nI (pre.length))), (3, .int 1), (2, .int (nI (pre.length))), (0, .ref 120), (1, .ref (241 + k0))], [.ref (241 + kf)], MH C t, sl) P X := by
  obtain ⟨hT, ⟨fc, fs, A1, A2, A3⟩, B1, B2, B3, B4, B5, B6⟩ := A
  by_cases h6 : pre.length < 6
  · obtain ⟨fs', Z1, Z2, Z3⟩ := PAs_p (v := some (241 + kf)) (s := s) (i2 := i) (nl2 := nl) (C1 := C) (sl1 := sl) A1 A2 A3 hk hs h6
    obtain ⟨kf', hkf⟩ : ∃ fl, t[kf]? = some (.inr (8, fl)) := by
      cases s with
      | none => cases hs
      | some O =>
        obtain ⟨q, q1, q2, q3, sq, e, F, _⟩ := hs
        have : kf = q := Nat.add_left_cancel (show 241 + kf = 241 + q by injection e)
        subst this
        exact ⟨_, F.1⟩
    obtain ⟨t1, e1, g1, p1, l1⟩ := tl_st A1.2.2 (.inl (8, 6, .inr (.inr (.inr (.inr (va_up fs pre.length (some (241 + kf))))))))
    have A1' : AP t1 k0 kc ks kd0 tb0 fc (va_up fs pre.length (some (241 + kf))) (nI (min pre.length 6)) .null 0 := ⟨p1 _ _ hk.1 A1.1, p1 _ _ (Ne.symm hk.2.2) A1.2.1, g1⟩
    obtain ⟨t2, e2, g2, p2, l2⟩ := tl_st A1'.1 (.inr (9, [.int kd0, .int tb0, .ref (241 + kc), .ref (241 + ks), .int (nI (pre.length + 1)), .null, .int 0]))
    rw [e1, e2] at Z1 Z2
    have HH := H t2 ⟨hT, ⟨fc, fs', Z1, Z2, Z3⟩, fun j x h1 h2 h => p2 _ _ h1 (p1 _ _ h2 (B1 j x h1 h2 h)), by omega, by omega, B4, B5, by rw [len_s]; omega⟩

    refine w_p (pc1 := 55) (al1 := [(5, .ref (241 + kf)), (4, .int (nI (pre.length))), (3, .int 1), (2, .int (nI (pre.length))), (0, .ref 120), (1, .ref (241 + k0))]) rfl rfl ?_
    refine w_p (pc1 := 57) rfl rfl ?_
    refine w_p (pc1 := 58) rfl rfl ?_
    refine w_m0 (pc1 := 61) (st1 := .ref (241 + ks) :: _) rfl rfl (x_gf (k := k0) rfl A1.1 rfl) rfl ?_
    refine w_m0 (pc1 := 62) (st1 := .int (nI (6)) :: _) rfl rfl (x_ln (k := ks) A1.2.2 (by decide)) rfl ?_
    refine w_f (a := 82) (b := 65) (bN_ge_f (a := pre.length) (b := 6) (by omega) (by omega) (by omega)) rfl rfl ?_
    refine w_p (pc1 := 66) rfl rfl ?_
    refine w_m0 (pc1 := 69) (st1 := .ref (241 + ks) :: _) rfl rfl (x_gf (k := k0) rfl A1.1 rfl) rfl ?_
    refine w_p (pc1 := 71) rfl rfl ?_
    refine w_p (pc1 := 73) rfl rfl ?_
    refine w_m0 (pc1 := 74) rfl rfl (x_ass (k := ks) (e := pre.length) A1.2.2 hkf rfl (by omega) (by omega)) rfl ?_
    rw [e1]
    refine w_p (pc1 := 75) rfl rfl ?_
    refine w_p (pc1 := 77) rfl rfl ?_
    refine w_p (pc1 := 78) (st1 := .int 1 :: _) rfl rfl ?_
    refine w_iadd (pc1 := 79) (u := nI (pre.length)) (v := nI (1)) (z := nI (pre.length + 1)) rfl (nK_add) rfl ?_
    refine w_m0 (pc1 := 82) rfl rfl (x_pf (k := k0) (fs' := [.int (kd0), .int (tb0), .ref (241 + kc), .ref (241 + ks), .int (nI (pre.length + 1)), .null, .int 0]) rfl A1'.1 rfl rfl ⟨rfl, rfl⟩ (Or.inl rfl) (Nat.le_of_ble_eq_true rfl) rfl) rfl ?_
    rw [e2]
    refine w_iinc (pc1 := 85) (u := nI (pre.length)) (z := nI (pre.length + 1)) (al1 := [(2, .int (nI (pre.length + 1))), (5, .ref (241 + kf)), (4, .int (nI (pre.length))), (3, .int 1), (0, .ref 120), (1, .ref (241 + k0))]) rfl rfl rfl nK_1 rfl rfl ?_
    refine Wd_al (al := [(4, .int (nI (pre.length))), (3, .int 1), (2, .int (nI (pre.length + 1))), (0, .ref 120), (1, .ref (241 + k0))]) (sba_p [2, 3, 0, 4, 5] rfl rfl) ?_
    exact HH
  · have A1' : AP t k0 kc ks kd0 tb0 fc fs (nI (min (pre ++ [s]).length 6)) .null 0 := by
      rw [len_s, show min (pre.length + 1) 6 = min pre.length 6 by omega]
      exact A1
    have HH := H t ⟨hT, ⟨fc, fs, A1', fun j x hj h6j => by
      rw [List.getElem?_append_left (by omega)] at hj
      exact A2 j x hj h6j, fun j hj => A3 j (by rw [len_s] at hj; omega)⟩, B1, B2, B3, B4, B5, by rw [len_s]; omega⟩
    refine w_p (pc1 := 55) (al1 := [(5, .ref (241 + kf)), (4, .int (nI (pre.length))), (3, .int 1), (2, .int (nI (pre.length))), (0, .ref 120), (1, .ref (241 + k0))]) rfl rfl ?_
    refine w_p (pc1 := 57) rfl rfl ?_
    refine w_p (pc1 := 58) rfl rfl ?_
    refine w_m0 (pc1 := 61) (st1 := .ref (241 + ks) :: _) rfl rfl (x_gf (k := k0) rfl A1.1 rfl) rfl ?_
    refine w_m0 (pc1 := 62) (st1 := .int (nI (6)) :: _) rfl rfl (x_ln (k := ks) A1.2.2 (by decide)) rfl ?_
    refine w_t (a := 82) (b := 65) (bN_ge_t (a := pre.length) (b := 6) (by omega) (by omega) (by omega)) rfl rfl ?_
    refine w_iinc (pc1 := 85) (u := nI (pre.length)) (z := nI (pre.length + 1)) (al1 := [(2, .int (nI (pre.length + 1))), (5, .ref (241 + kf)), (4, .int (nI (pre.length))), (3, .int 1), (0, .ref 120), (1, .ref (241 + k0))]) rfl rfl rfl nK_1 rfl rfl ?_
    refine Wd_al (al := [(4, .int (nI (pre.length))), (3, .int 1), (2, .int (nI (pre.length + 1))), (0, .ref 120), (1, .ref (241 + k0))]) (sba_p [2, 3, 0, 4, 5] rfl rfl) ?_
    exact HH
set_option maxRecDepth 100000 in
theorem b86y (S : tkS B n m C i) (hk : kd B n i = 48) {p : Nat} (h6 : p < 600) (H : Wd L xs (d + 57) y_86 (17, [(4, .int (nI (p + 1))), (3, .int 1), (2, .int (nI (p + 1))), (0, .ref 120), (1, .ref (241 + k0))], [], MH (nxT B n C i) t, sl) P X) : Wd L xs (d + 57) y_86 (85, [(4, .int (nI (p))), (3, .int 1), (2, .int (nI (p + 1))), (0, .ref 120), (1, .ref (241 + k0))], [], MH C t, sl) P X := by
  refine w_p (pc1 := 86) rfl rfl ?_
  refine w_m0 (pc1 := 89) rfl rfl (h_gC rfl rfl rfl rfl) rfl ?_
  refine w_m0 (pc1 := 92) (st1 := .ref 48 :: _) rfl rfl rfl rfl ?_
  refine w_je (pc1 := 95) (vs := [.ref 101, .ref 48]) (rest := []) (st1 := [.int 1]) (m_44y (d := d + 55) (sl := 0) S (by decide) hk (by decide) (by decide)) rfl rfl rfl (fun _ _ => rfl) rfl (by exact cl_v my_44 rfl rfl rfl (Nat.le_of_ble_eq_true rfl) rfl (MH_obj rfl rfl) rfl (by decide) rfl rfl) (by rfl) (Nat.le_of_ble_eq_true rfl) (Nat.le_of_ble_eq_true rfl) rfl (by rfl) ?_
  refine w_p (pc1 := 96) (al1 := [(3, .int 1), (4, .int (nI (p))), (2, .int (nI (p + 1))), (0, .ref 120), (1, .ref (241 + k0))]) rfl rfl ?_
  refine w_iinc (pc1 := 99) (u := nI (p)) (z := nI (p + 1)) (al1 := [(4, .int (nI (p + 1))), (3, .int 1), (2, .int (nI (p + 1))), (0, .ref 120), (1, .ref (241 + k0))]) rfl rfl rfl nK_1 rfl rfl ?_
  refine w_p (pc1 := 17) rfl rfl ?_
  exact H
set_option maxRecDepth 100000 in
theorem b86n (S : tkS B n m C i) (hk : kd B n i ≠ 48) {p : Nat} (h6 : p < 600) (H : Wd L xs (d + 57) y_86 (102, [(2, .int (nI (p + 1))), (0, .ref 120), (1, .ref (241 + k0))], [], MH C t, sl) P X) : Wd L xs (d + 57) y_86 (85, [(4, .int (nI (p))), (3, .int 1), (2, .int (nI (p + 1))), (0, .ref 120), (1, .ref (241 + k0))], [], MH C t, sl) P X := by
  by_cases hp : p + 1 < 600
  · skip
    refine w_p (pc1 := 86) rfl rfl ?_
    refine w_m0 (pc1 := 89) rfl rfl (h_gC rfl rfl rfl rfl) rfl ?_
    refine w_m0 (pc1 := 92) (st1 := .ref 48 :: _) rfl rfl rfl rfl ?_
    refine w_je (pc1 := 95) (vs := [.ref 101, .ref 48]) (rest := []) (st1 := [.int 0]) (m_44n (d := d + 56) (sl := 0) S (by decide) hk) rfl rfl rfl (fun _ _ => rfl) rfl (by exact cl_v my_44 rfl rfl rfl (Nat.le_of_ble_eq_true rfl) rfl (MH_obj rfl rfl) rfl (by decide) rfl rfl) (by rfl) (Nat.le_of_ble_eq_true rfl) (Nat.le_of_ble_eq_true rfl) rfl (by rfl) ?_
    refine w_p (pc1 := 96) (al1 := [(3, .int 0), (4, .int (nI (p))), (2, .int (nI (p + 1))), (0, .ref 120), (1, .ref (241 + k0))]) rfl rfl ?_
    refine w_iinc (pc1 := 99) (u := nI (p)) (z := nI (p + 1)) (al1 := [(4, .int (nI (p + 1))), (3, .int 0), (2, .int (nI (p + 1))), (0, .ref 120), (1, .ref (241 + k0))]) rfl rfl rfl nK_1 rfl rfl ?_
    refine w_p (pc1 := 17) rfl rfl ?_
    refine w_p (pc1 := 19) rfl rfl ?_
    refine w_p (pc1 := 22) (st1 := .int 600 :: _) rfl rfl ?_
    refine w_f (a := 102) (b := 25) (bN_ge_f (a := p + 1) (b := 600) (by omega) (by omega) (by omega)) rfl rfl ?_
    refine w_p (pc1 := 26) rfl rfl ?_
    refine w_t (a := 102) (b := 29) rfl rfl rfl ?_
    refine Wd_al (al := [(2, .int (nI (p + 1))), (0, .ref 120), (1, .ref (241 + k0))]) (sba_p [2, 3, 4] rfl rfl) ?_
    exact H
  · skip
    refine w_p (pc1 := 86) rfl rfl ?_
    refine w_m0 (pc1 := 89) rfl rfl (h_gC rfl rfl rfl rfl) rfl ?_
    refine w_m0 (pc1 := 92) (st1 := .ref 48 :: _) rfl rfl rfl rfl ?_
    refine w_je (pc1 := 95) (vs := [.ref 101, .ref 48]) (rest := []) (st1 := [.int 0]) (m_44n (d := d + 56) (sl := 0) S (by decide) hk) rfl rfl rfl (fun _ _ => rfl) rfl (by exact cl_v my_44 rfl rfl rfl (Nat.le_of_ble_eq_true rfl) rfl (MH_obj rfl rfl) rfl (by decide) rfl rfl) (by rfl) (Nat.le_of_ble_eq_true rfl) (Nat.le_of_ble_eq_true rfl) rfl (by rfl) ?_
    refine w_p (pc1 := 96) (al1 := [(3, .int 0), (4, .int (nI (p))), (2, .int (nI (p + 1))), (0, .ref 120), (1, .ref (241 + k0))]) rfl rfl ?_
    refine w_iinc (pc1 := 99) (u := nI (p)) (z := nI (p + 1)) (al1 := [(4, .int (nI (p + 1))), (3, .int 0), (2, .int (nI (p + 1))), (0, .ref 120), (1, .ref (241 + k0))]) rfl rfl rfl nK_1 rfl rfl ?_
    refine w_p (pc1 := 17) rfl rfl ?_
    refine w_p (pc1 := 19) rfl rfl ?_
    refine w_p (pc1 := 22) (st1 := .int 600 :: _) rfl rfl ?_
    refine w_t (a := 102) (b := 25) (bN_ge_t (a := p + 1) (b := 600) (by omega) (by omega) (by omega)) rfl rfl ?_
    refine Wd_al (al := [(2, .int (nI (p + 1))), (0, .ref 120), (1, .ref (241 + k0))]) (sba_p [2, 3, 4] rfl rfl) ?_
    exact H
/-! the loop over the parts -/
set_option maxRecDepth 100000 in
theorem PAs_N (S : tkS B n m C i) (h1 : kd B n i ≠ 1) (h2 : kd B n i ≠ 2) (A : PAs B n m C0 t0 i0 sl0 k0 kc ks kd0 tb0 pre i nl C t sl) : PAs B n m C0 t0 i0 sl0 k0 kc ks kd0 tb0 pre (i + 1) nl (nxT B n C i) t sl := by
  obtain ⟨⟨_, hT2, hT3⟩, hA, B1, B2, B3, B4, B5, B6⟩ := A
  exact ⟨⟨nxT_S S h1 h2, by rw [nxT_fr.1 21 6 (by omega)]; exact hT2, frF_t hT3 (frF_N nxT_fr)⟩, hA, B1, by omega, B3, by omega, by omega, by omega⟩
set_option maxRecDepth 100000 in
theorem tlE_len {a b : ab_H} (h : tlE a b) : a.length ≤ b.length := by
  rcases Nat.lt_or_ge b.length a.length with hl | hl
  · have := h b.length a[b.length] (List.getElem?_eq_getElem hl)
    have := get_lt this
    omega
  · exact hl
set_option maxRecDepth 100000 in
theorem lp_86 (hk : k0 ≠ ks ∧ k0 ≠ kc ∧ ks ≠ kc) (hkt : k0 < t0.length ∧ ks < t0.length ∧ kc < t0.length) (hE : E = fE (tkP B n) sc row tg) (R : RX C0 sc row tg false) : ∀ (f : Nat) (pre : List (Option (List op_T))) (i : Nat) (nl : Option Nat) (C : co_T) (t : ab_H) (sl : Nat), PAs B n m C0 t0 i0 sl0 k0 kc ks kd0 tb0 pre i nl C t sl → nzp (rPar E f i nl) → (∀ l i' nl' C' t' sl', rPar E f i nl = .inr (l, i', nl') → PAs B n m C0 t0 i0 sl0 k0 kc ks kd0 tb0 (pre ++ l) i' nl' C' t' sl' → Wd L xs (d + 57) y_86 (102, [(2, .int (nI (pre ++ l).length)), (0, .ref 120), (1, .ref (241 + k0))], [], MH C' t', sl') P X) → (∀ c j a h q, rPar E f i nl = .inl (c, j) → XAs B n C0 t0 i0 sl0 k0 ks c j a h q → X a h q) → Wd L xs (d + 57) y_86 (17, [(4, .int (nI (pre.length))), (3, .int 1), (2, .int (nI (pre.length))), (0, .ref 120), (1, .ref (241 + k0))], [], MH C t, sl) P X
  | 0, pre, i, nl, C, t, sl, A, hz, HN, HX => absurd rfl (hz 0)
  | f + 1, pre, i, nl, C, t, sl, A, hz, HN, HX => by
    obtain ⟨⟨hT1, hT2, hT3⟩, ⟨fc, fs, A1, A2, A3⟩, B1, B2, B3, B4, B5, B6⟩ := id A
    have hi6 := hT1.2.2.2.1
    have h600 := tkS_600 hT1
    have er : rPar E (f + 1) i nl = pb (rPt E i nl) (fun x => if E.1 x.2.1 = 48 then pb (rPar E f (x.2.1 + 1) x.2.2) (fun y => .inr (x.1 :: y.1, y.2)) else .inr ([x.1], x.2)) := rfl
    rw [er] at hz HN HX
    have hE1 : E.1 = kd B n := by rw [hE]; rfl
    have part : ∀ (s : Option (List op_T)) (i1 : Nat) (nl1 : Option Nat) (C1 : co_T) (t1 : ab_H) (sl1 : Nat), rPt E i nl = .inr (s, i1, nl1) → pre.length < 600 → PAs B n m C0 t0 i0 sl0 k0 kc ks kd0 tb0 (pre ++ [s]) i1 nl1 C1 t1 sl1 → Wd L xs (d + 57) y_86 (85, [(4, .int (nI (pre.length))), (3, .int 1), (2, .int (nI (pre.length + 1))), (0, .ref 120), (1, .ref (241 + k0))], [], MH C1 t1, sl1) P X := by
      intro s i1 nl1 C1 t1 sl1 h1 hpl A5
      have hS := A5.1.1
      rw [pb_r h1] at HN HX
      have hz1 := nzp_g h1 hz
      by_cases hc : kd B n i1 = 48
      · have hE3 : E.1 i1 = 48 := by rw [hE1]; exact hc
        rw [if_pos hE3] at HN HX hz1
        refine b86y hS hc hpl ?_
        have IH := lp_86 hk hkt hE R f (pre ++ [s]) (i1 + 1) nl1 (nxT B n C1 i1) t1 sl1 (PAs_N hS (by rw [hc]; decide) (by rw [hc]; decide) A5) (nzp_b hz1) (fun l i' nl' C' t' sl' e A' => ?_) (fun c j a h q e x => HX c j a h q (pb_l e) x)
        · rw [len_s] at IH
          exact IH
        · have := HN (s :: l) i' nl' C' t' sl' (pb_r e)
          rw [List.append_cons] at this
          exact this A'
      · have hE3 : E.1 i1 ≠ 48 := by rw [hE1]; exact hc
        rw [if_neg hE3] at HN HX
        refine b86n hS hc hpl ?_
        have := HN [s] i1 nl1 C1 t1 sl1 rfl A5
        rw [len_s] at this
        exact this
    have htk := tkS_tok hT1
    by_cases h14 : kd B n i = 14
    · have e1 : rPt E i nl = .inr (none, i + 1, nl) := by
        unfold rPt
        rw [if_pos (by rw [hE1]; exact h14)]
      have hlt := tkS_lt hT1 (by rw [h14]; decide) (by rw [h14]; decide)
      have A4 := PAs_N hT1 (by rw [h14]; decide) (by rw [h14]; decide) A
      have hgo := a86n (d := d) (s := none) hk A4 (by omega) rfl (by omega) (fun t' A5 => part none (i + 1) nl _ t' sl e1 (by omega) A5)
      refine w_p (pc1 := 19) rfl rfl ?_
      refine w_p (pc1 := 22) (st1 := .int 600 :: _) rfl rfl ?_
      refine w_f (a := 102) (b := 25) (bN_ge_f (a := pre.length) (b := 600) (by omega) (by omega) (by omega)) rfl rfl ?_
      refine w_p (pc1 := 26) rfl rfl ?_
      refine w_f (a := 102) (b := 29) rfl rfl rfl ?_
      refine w_p (pc1 := 30) rfl rfl ?_
      refine w_m0 (pc1 := 33) rfl rfl (h_gC rfl rfl rfl rfl) rfl ?_
      refine w_m0 (pc1 := 36) (st1 := .ref 14 :: _) rfl rfl rfl rfl ?_
      refine w_je (pc1 := 39) (vs := [.ref 101, .ref 14]) (rest := []) (st1 := [.int 1]) (m_44y (d := d + 55) (sl := 0) hT1 (by decide) h14 (by decide) (by decide)) rfl rfl rfl (fun _ _ => rfl) rfl (by exact cl_v my_44 rfl rfl rfl (Nat.le_of_ble_eq_true rfl) rfl (MH_obj rfl rfl) rfl (by decide) rfl rfl) (by rfl) (Nat.le_of_ble_eq_true rfl) (Nat.le_of_ble_eq_true rfl) rfl (by rfl) ?_
      refine w_f (a := 46) (b := 42) rfl rfl rfl ?_
      refine w_p (pc1 := 43) rfl rfl ?_
      refine w_p (pc1 := 53) rfl rfl ?_
      exact hgo
    · have e0 : rPt E i nl = pb (rFm E 3 i nl) (fun x => .inr (some x.1, x.2)) := by
        unfold rPt
        rw [if_neg (by rw [hE1]; exact h14)]
      have hEk : eK B n C E := by rw [hE]; exact RX_e (RX_F R hT3)
      have hg : C.1 21 10 = ck false := (hT3.1 21 10 (by omega) (by omega) (by omega) (by omega)).trans R.2.2.2
      cases hr : rd E 6000 3 (i, [], 0, nl) with
      | inl ce =>
        obtain ⟨c, j⟩ := ce
        have e1 : rFm E 3 i nl = .inl (c, j) := by
          unfold rFm
          rw [hr]
        have e2 : rPt E i nl = .inl (c, j) := by rw [e0]; exact pb_l e1
        have hc : c ≠ 0 := fun e => hz j (by rw [pb_l e2, e])
        have hcl := m_83e (L := L) (xs := xs) (t := t) (d := d + 1) (sl := 0) hT1 hEk hT2 hc hr
        have hij : i ≤ j := rd_ij hr hc
        refine w_p (pc1 := 19) rfl rfl ?_
        refine w_p (pc1 := 22) (st1 := .int 600 :: _) rfl rfl ?_
        refine w_f (a := 102) (b := 25) (bN_ge_f (a := pre.length) (b := 600) (by omega) (by omega) (by omega)) rfl rfl ?_
        refine w_p (pc1 := 26) rfl rfl ?_
        refine w_f (a := 102) (b := 29) rfl rfl rfl ?_
        refine w_p (pc1 := 30) rfl rfl ?_
        refine w_m0 (pc1 := 33) rfl rfl (h_gC rfl rfl rfl rfl) rfl ?_
        refine w_m0 (pc1 := 36) (st1 := .ref 14 :: _) rfl rfl rfl rfl ?_
        refine w_je (pc1 := 39) (vs := [.ref 101, .ref 14]) (rest := []) (st1 := [.int 0]) (m_44n (d := d + 56) (sl := 0) hT1 (by decide) h14) rfl rfl rfl (fun _ _ => rfl) rfl (by exact cl_v my_44 rfl rfl rfl (Nat.le_of_ble_eq_true rfl) rfl (MH_obj rfl rfl) rfl (by decide) rfl rfl) (by rfl) (Nat.le_of_ble_eq_true rfl) (Nat.le_of_ble_eq_true rfl) rfl (by rfl) ?_
        refine w_t (a := 46) (b := 42) rfl rfl rfl ?_
        refine w_p (pc1 := 47) rfl rfl ?_
        refine w_m0 (pc1 := 50) rfl rfl (h_gC rfl rfl rfl rfl) rfl ?_
        refine w_ji (pc1 := 53) (vs := [.ref 121]) (rest := []) (hcl) rfl rfl rfl (fun _ _ => rfl) rfl (by exact cl_v my_83 rfl rfl rfl (Nat.le_of_ble_eq_true rfl) rfl (MH_obj rfl rfl) rfl (by decide) rfl rfl) (by rfl) (Nat.le_of_ble_eq_true rfl) (Nat.le_of_ble_eq_true rfl) rfl (fun v h1 d1 hq => ?_) (fun a h1 d1 hq => ?_)
        · exact hq.elim
        · rcases hq with ⟨C1, f1, s1, ha, hh, hn⟩
          · subst ha; subst hh; subst hn
            refine Or.inl ⟨ch_new (by decide) rfl, ?_⟩
            refine HX c j _ _ _ (pb_l e2) ⟨_, t, sl + 0, ⟨flt_rf.1, frD_t (frD_F (frF_t hT3 f1)) flt_rf.2, ⟨B1, by omega, B3, by omega⟩, by omega⟩, rfl, ?_, by omega⟩
            with_reducible rfl
      | inr z =>
        have e1 : rFm E 3 i nl = .inr (z.2.1, z.1, z.2.2.2) := by
          unfold rFm
          rw [hr]
        have e2 : rPt E i nl = .inr (some z.2.1, z.1, z.2.2.2) := by rw [e0]; exact pb_r e1
        have hcl := m_83 (L := L) (xs := xs) (t := t) (d := d + 1) (sl := 0) hT1 hEk hT2 hg (by omega) hr
        have hfl := rd_fle _ _ _ _ hr
        have hf1 : z.2.1.length + i ≤ 0 + z.1 := hfl.2.1
        refine w_p (pc1 := 19) rfl rfl ?_
        refine w_p (pc1 := 22) (st1 := .int 600 :: _) rfl rfl ?_
        refine w_f (a := 102) (b := 25) (bN_ge_f (a := pre.length) (b := 600) (by omega) (by omega) (by omega)) rfl rfl ?_
        refine w_p (pc1 := 26) rfl rfl ?_
        refine w_f (a := 102) (b := 29) rfl rfl rfl ?_
        refine w_p (pc1 := 30) rfl rfl ?_
        refine w_m0 (pc1 := 33) rfl rfl (h_gC rfl rfl rfl rfl) rfl ?_
        refine w_m0 (pc1 := 36) (st1 := .ref 14 :: _) rfl rfl rfl rfl ?_
        refine w_je (pc1 := 39) (vs := [.ref 101, .ref 14]) (rest := []) (st1 := [.int 0]) (m_44n (d := d + 56) (sl := 0) hT1 (by decide) h14) rfl rfl rfl (fun _ _ => rfl) rfl (by exact cl_v my_44 rfl rfl rfl (Nat.le_of_ble_eq_true rfl) rfl (MH_obj rfl rfl) rfl (by decide) rfl rfl) (by rfl) (Nat.le_of_ble_eq_true rfl) (Nat.le_of_ble_eq_true rfl) rfl (by rfl) ?_
        refine w_t (a := 46) (b := 42) rfl rfl rfl ?_
        refine w_p (pc1 := 47) rfl rfl ?_
        refine w_m0 (pc1 := 50) rfl rfl (h_gC rfl rfl rfl rfl) rfl ?_
        refine w_ji (pc1 := 53) (vs := [.ref 121]) (rest := []) (hcl) rfl rfl rfl (fun _ _ => rfl) rfl (by exact cl_v my_83 rfl rfl rfl (Nat.le_of_ble_eq_true rfl) rfl (MH_obj rfl rfl) rfl (by decide) rfl rfl) (by rfl) (Nat.le_of_ble_eq_true rfl) (Nat.le_of_ble_eq_true rfl) rfl (fun v h q hq => ?_) (fun _ _ _ e => e.elim)
        obtain ⟨rfl, ⟨C1, t1, ⟨c1, c2, c3, ⟨s0, c4⟩, c5, c6⟩, rfl⟩, rfl⟩ := hq
        have hzm := c1.2.2.2.1
        have hpr := rd_p1 hE1 hT1 (Or.inl rfl) hr
        have A4 : PAs B n m C0 t0 i0 sl0 k0 kc ks kd0 tb0 pre z.1 z.2.2.2 C1 t1 (sl + 0 + (0 + (4 + 3 * z.2.1.length))) := ⟨⟨c1, c2, frF_t hT3 c3⟩, ⟨fc, fs, ⟨c5 _ _ A1.1, c5 _ _ A1.2.1, c5 _ _ A1.2.2⟩, fun j s hj h6 => foK_e c5 (A2 j s hj h6), A3⟩, fun j x h1 h2 h => c5 _ _ (B1 j x h1 h2 h), by omega, by omega, by omega, by omega, by omega⟩
        have hgo := a86s (d := d) (s := some z.2.1) hk A4 (by omega) ⟨_, _, _, _, s0, rfl, c4, by omega⟩ (by omega) (fun t' A5 => part (some z.2.1) z.1 z.2.2.2 _ t' _ e2 (by omega) A5)
        exact hgo
end PRT
