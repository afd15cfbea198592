
/-! THE OTHER SIDE READS A TABLE, 4: names of columns -/
section MTD
variable {L : Nat} {xs : Nat → Int32} {B : Nat → Nat} {n : Nat} {C C' C0 C1 : co_T} {t : ab_H} {d i i0 i1 j b e p k w q : Nat} {U V : Nat → Prop} {c : Int32} {sc : sc_T} {row : Option Nat} {tg : Option (Nat × Nat)} {nl : Option Nat} {E : fe_T} {tr : Nat → Option tr_T}
variable {r : Nat} {l acc suf pre : List Nat} {o : Option Nat} {Tb : tb_S} {u : ru_T} {P : Option Value → ab_H → Nat → Prop} {cs : List Nat}
def fN (K r : Nat) (C C' : co_T) : Prop := (∀ k j, ¬ (k = 76 ∧ (j = 3 ∨ j = 4 ∨ j = 5 ∨ j = 6 ∨ j = 8 ∨ j = 9)) → ¬ (k = K ∧ 6 * r ≤ j ∧ j < 6 * r + 6) → C'.1 k j = C.1 k j) ∧ (∀ k j, ¬ (k = 76 ∧ j = 7) → C'.2.1 k j = C.2.1 k j) ∧ C'.2.2 = C.2.2
set_option maxRecDepth 100000 in
theorem fN_r {K : Nat} : fN K r C C := ⟨fun _ _ _ _ => rfl, fun _ _ _ => rfl, rfl⟩
set_option maxRecDepth 100000 in
theorem fN_t {K : Nat} {C1 C2 C3 : co_T} (h : fN K r C1 C2) (f : fN K r C2 C3) : fN K r C1 C3 := ⟨fun k j a b => (f.1 k j a b).trans (h.1 k j a b), fun k j a => (f.2.1 k j a).trans (h.2.1 k j a), f.2.2.trans h.2.2⟩
set_option maxRecDepth 100000 in
theorem fN_T {K : Nat} (h : frT C C') : fN K r C C' := ⟨fun k j a _ => h.1 k j a, h.2⟩
set_option maxRecDepth 100000 in
theorem fN_I {K : Nat} {v : Int32} (h : 6 * r ≤ j ∧ j < 6 * r + 6) : fN K r C (sI C K j v) := ⟨fun q i a b => by rw [sI_1, if_neg (by omega)], fun _ _ _ => rfl, rfl⟩
set_option maxRecDepth 100000 in
theorem fP_N {K : Nat} (hK : K = 88 ∨ K = 89) (h : fN K r C C') : fP r C C' := ⟨fun k j a b c d e g => h.1 k j (by omega) (by omega), fun k j a _ _ => h.2.1 k j a, h.2.2⟩
def nPre (acc : List Nat) (y : List Nat × Nat) : pz_T (List Nat × Nat) := .inr (acc ++ y.1, y.2)
set_option maxRecDepth 100000 in
theorem nam_u {K : tv2} {f : Nat} : pb (rNam K sc b (f + 1) acc i) (nPre acc) = pb (rCol K sc b acc i) (fun c => if K.1 c.2 = 48 then pb (rNam K sc b f (acc ++ [c.1]) (c.2 + 1)) (nPre (acc ++ [c.1])) else .inr (acc ++ [c.1], c.2)) := by
  rw [rNam, pb_pb]
  congr 1
  funext c
  by_cases h : K.1 c.2 = 48
  · rw [if_pos h, if_pos h, pb_pb]
    congr 1
    funext y
    show (.inr (acc ++ (c.1 :: y.1), y.2) : pz_T _) = .inr (acc ++ [c.1] ++ y.1, y.2)
    rw [List.append_assoc]
    rfl
  · rw [if_neg h, if_neg h]
    rfl
set_option maxRecDepth 100000 in
theorem nam_0 {r : pz_T (List Nat × Nat)} : pb r (nPre []) = r := by
  cases r <;> rfl
set_option maxRecDepth 100000 in
theorem nam_z {K : tv2} {f q : Nat} (h : nzp (rNam K sc b (f + 1) acc i)) (h1 : rCol K sc b acc i = .inr (q, i + 1)) (h48 : K.1 (i + 1) = 48) : nzp (rNam K sc b f (acc ++ [q]) (i + 1 + 1)) := by
  intro z e
  apply h z
  rw [rNam, pb_r h1, if_pos h48, e]
  rfl
set_option maxRecDepth 100000 in
theorem bd_nam {K : tv2} {f : Nat} (hb : K.1 i = 1) (hz : nzp (rNam K sc b f acc i)) : bdS (rNam K sc b f acc i) i := by
  cases f with
  | zero => exact absurd rfl (hz 0)
  | succ f =>
    rw [rNam]
    exact bdS_b (bdS_c hb)
set_option maxRecDepth 100000 in
theorem arI_s {f : Nat → Int32} {a : Nat} (h : arI f a acc) (hq : f (a + acc.length) = nI q) : arI f a (acc ++ [q]) := by
  intro j x hx
  by_cases hj : j < acc.length
  · rw [List.getElem?_append_left hj] at hx
    exact h j x hx
  · have h2 : j < (acc ++ [q]).length := (List.getElem?_eq_some_iff.mp hx).1
    rw [List.length_append, List.length_singleton] at h2
    have : j = acc.length := by omega
    subst this
    rw [List.getElem?_append_right (Nat.le_refl _), Nat.sub_self] at hx
    cases hx
    exact hq
set_option maxRecDepth 100000 in
theorem arI_o {f g : Nat → Int32} {a : Nat} (h : arI f a acc) (h6 : acc.length ≤ 6) (he : ∀ j, a ≤ j → j < a + 6 → g j = f j) : arI g a acc := fun j x hx => by
  have hj : j < acc.length := (List.getElem?_eq_some_iff.mp hx).1
  rw [he (a + j) (by omega) (by omega)]
  exact h j x hx
def PNM (B : Nat → Nat) (n : Nat) (U V : Nat → Prop) (C0 C : co_T) (t : ab_H) (K r : Nat) (nl : Option Nat) (x : pz_T (List Nat × Nat)) : Option Value → ab_H → Nat → Prop := fun v h m => (∃ cs i', some (.int (nI cs.length)) = v ∧ (∃ C', (x = .inr (cs, i') ∧ kd B n i' ≠ 1 ∧ MS B n U V C0 C' i' nl ∧ arI (C'.1 K) (6 * r) cs ∧ fN K r C C') ∧ MH C' t = h) ∧ 0 = m) ∨ (∃ a, some (.int (nI a)) = v ∧ (∃ C', (∃ c j, flS B n Prod.snd x c j ∧ FS B n U V C0 C' c j) ∧ MH C' t = h) ∧ 0 = m)
set_option maxRecDepth 100000 in
theorem PNM_f {K : Nat} {x : pz_T (List Nat × Nat)} (h : fN K r C C1) : ∀ v hh m, PNM B n U V C0 C1 t K r nl x v hh m → PNM B n U V C0 C t K r nl x v hh m := by
  intro v hh m hq
  rcases hq with ⟨cs, i', hv, ⟨C', ⟨h1, h2, h3, h4, h5⟩, hh⟩, hn⟩ | hq
  · exact Or.inl ⟨cs, i', hv, ⟨C', ⟨h1, h2, h3, h4, fN_t h h5⟩, hh⟩, hn⟩
  · exact Or.inr hq
set_option maxRecDepth 100000 in
theorem nA_88 (hr : r < 24) (ha : arI (C.1 88) (6 * r) acc) (h6 : acc.length ≤ 6) (hb6 : ∀ x, x ∈ acc → x < 6) (F : FS B n U V C0 C 4 i) (H : ∀ a, P (some (.int (nI a))) (MH C t) 0) : ∀ suf pre : List Nat, pre ++ suf = acc → Wd L xs d y_216 (70, [(7, .int (nI pre.length)), (6, .int (-1)), (5, .int 1), (4, .int (nI acc.length)), (0, .ref 176), (1, .int (nI b)), (2, .ref 188), (3, .int (nI (6 * r)))], [], MH C t, 0) P nX
  | [], pre, hp => by
    rw [List.append_nil] at hp
    subst hp
    refine w_p (pc1 := 72) rfl rfl ?_
    refine w_p (pc1 := 74) rfl rfl ?_
    refine w_t (a := 99) (b := 77) (bN_ge_t (a := pre.length) (b := pre.length) (by omega) (by omega) (by omega)) rfl rfl ?_
    refine w_p (pc1 := 100) rfl rfl ?_
    refine w_m0 (pc1 := 103) (st1 := .int 4 :: _) rfl rfl (h_gIe (j := 8) rfl rfl rfl rfl rfl (F.1.2.1)) rfl ?_
    refine w_f (a := 109) (b := 106) rfl rfl rfl ?_
    refine w_p (pc1 := 108) rfl rfl ?_
    refine w_r rfl rfl rfl (fun _ _ => rfl) cr_int ?_
    exact H _
  | x :: suf, pre, hp => by
    have hlen : pre.length < acc.length := by rw [← hp, List.length_append, List.length_cons]; omega
    have hget : acc[pre.length]? = some x := by rw [← hp, List.getElem?_append_right (Nat.le_refl _), Nat.sub_self]; rfl
    have hx6 := hb6 x (by rw [← hp]; exact List.mem_append_right _ (List.mem_cons_self ..))
    refine w_p (pc1 := 72) rfl rfl ?_
    refine w_p (pc1 := 74) rfl rfl ?_
    refine w_f (a := 99) (b := 77) (bN_ge_f (a := pre.length) (b := acc.length) (by omega) (by omega) (by omega)) rfl rfl ?_
    refine w_p (pc1 := 78) rfl rfl ?_
    refine w_p (pc1 := 79) rfl rfl ?_
    refine w_p (pc1 := 81) rfl rfl ?_
    refine w_iadd (pc1 := 82) (u := nI (6 * r)) (v := nI (pre.length)) (z := nI (6 * r + (pre.length))) rfl (nK_add) rfl ?_
    refine w_m0 (pc1 := 83) (st1 := .int (nI (x)) :: _) rfl rfl (n_ile (e := 6 * r + (pre.length)) rfl rfl rfl (by omega) (ha _ _ hget)) rfl ?_
    refine w_p (pc1 := 85) rfl rfl ?_
    refine w_t (a := 93) (b := 88) (cb_ne_t (by exact nK_m1 (by omega))) rfl rfl ?_
    refine w_iinc (pc1 := 96) (u := nI (pre.length)) (z := nI (pre.length + 1)) (al1 := [(7, .int (nI (pre.length + 1))), (6, .int (-1)), (5, .int 1), (4, .int (nI (acc.length))), (0, .ref 176), (1, .int (nI (b))), (2, .ref 188), (3, .int (nI (6 * r)))]) rfl rfl rfl nK_1 rfl rfl ?_
    refine w_p (pc1 := 70) rfl rfl ?_
    have w := nA_88 hr ha h6 hb6 F H suf (pre ++ [x]) (by rw [List.append_assoc]; exact hp)
    rw [List.length_append, List.length_singleton] at w
    exact w
set_option maxRecDepth 100000 in
theorem nB_88 (hr : r < 24) (ha : arI (C.1 88) (6 * r) acc) (h6 : acc.length ≤ 6) (hb6 : ∀ x, x ∈ acc → x < 6) (hq : q < 6) (F : FS B n U V C0 C 3 i) (H : ∀ a, P (some (.int (nI a))) (MH C t) 0) : ∀ suf pre : List Nat, pre ++ suf = acc → Wd L xs (d + 2) y_216 (70, [(7, .int (nI pre.length)), (6, .int (nI q)), (5, .int 1), (4, .int (nI acc.length)), (0, .ref 176), (1, .int (nI b)), (2, .ref 188), (3, .int (nI (6 * r)))], [], MH C t, 0) P nX
  | [], pre, hp => by
    rw [List.append_nil] at hp
    subst hp
    refine w_p (pc1 := 72) rfl rfl ?_
    refine w_p (pc1 := 74) rfl rfl ?_
    refine w_t (a := 99) (b := 77) (bN_ge_t (a := pre.length) (b := pre.length) (by omega) (by omega) (by omega)) rfl rfl ?_
    refine w_p (pc1 := 100) rfl rfl ?_
    refine w_m0 (pc1 := 103) (st1 := .int 3 :: _) rfl rfl (h_gIe (j := 8) rfl rfl rfl rfl rfl (F.1.2.1)) rfl ?_
    refine w_f (a := 109) (b := 106) rfl rfl rfl ?_
    refine w_p (pc1 := 108) rfl rfl ?_
    refine w_r rfl rfl rfl (fun _ _ => rfl) cr_int ?_
    exact H _
  | x :: suf, pre, hp => by
    have hlen : pre.length < acc.length := by rw [← hp, List.length_append, List.length_cons]; omega
    have hget : acc[pre.length]? = some x := by rw [← hp, List.getElem?_append_right (Nat.le_refl _), Nat.sub_self]; rfl
    have hx6 := hb6 x (by rw [← hp]; exact List.mem_append_right _ (List.mem_cons_self ..))
    by_cases he : x = q
    · skip
      refine w_p (pc1 := 72) rfl rfl ?_
      refine w_p (pc1 := 74) rfl rfl ?_
      refine w_f (a := 99) (b := 77) (bN_ge_f (a := pre.length) (b := acc.length) (by omega) (by omega) (by omega)) rfl rfl ?_
      refine w_p (pc1 := 78) rfl rfl ?_
      refine w_p (pc1 := 79) rfl rfl ?_
      refine w_p (pc1 := 81) rfl rfl ?_
      refine w_iadd (pc1 := 82) (u := nI (6 * r)) (v := nI (pre.length)) (z := nI (6 * r + (pre.length))) rfl (nK_add) rfl ?_
      refine w_m0 (pc1 := 83) (st1 := .int (nI (x)) :: _) rfl rfl (n_ile (e := 6 * r + (pre.length)) rfl rfl rfl (by omega) (ha _ _ hget)) rfl ?_
      refine w_p (pc1 := 85) rfl rfl ?_
      refine w_f (a := 93) (b := 88) (bN_ne_f (a := x) (b := q) (by omega) (by omega) (by omega)) rfl rfl ?_
      refine w_p (pc1 := 89) rfl rfl ?_
      refine w_p (pc1 := 90) (st1 := .int 3 :: _) rfl rfl ?_
      refine w_je (pc1 := 93) (vs := [.ref 176, .int 3]) (rest := []) (st1 := []) (hF (d := _) (c' := 3) F (by decide)) rfl rfl rfl (fun _ _ => rfl) rfl (by exact cl_v my_200 rfl rfl rfl (Nat.le_of_ble_eq_true rfl) rfl (MH_obj rfl rfl) rfl (by decide) rfl rfl) (by rfl) (Nat.le_of_ble_eq_true rfl) (Nat.le_of_ble_eq_true rfl) rfl (by rfl) ?_
      refine w_iinc (pc1 := 96) (u := nI (pre.length)) (z := nI (pre.length + 1)) (al1 := [(7, .int (nI (pre.length + 1))), (6, .int (nI (q))), (5, .int 1), (4, .int (nI (acc.length))), (0, .ref 176), (1, .int (nI (b))), (2, .ref 188), (3, .int (nI (6 * r)))]) rfl rfl rfl nK_1 rfl rfl ?_
      refine w_p (pc1 := 70) rfl rfl ?_
      have w := nB_88 hr ha h6 hb6 hq F H suf (pre ++ [x]) (by rw [List.append_assoc]; exact hp)
      rw [List.length_append, List.length_singleton] at w
      exact w
    · skip
      refine w_p (pc1 := 72) rfl rfl ?_
      refine w_p (pc1 := 74) rfl rfl ?_
      refine w_f (a := 99) (b := 77) (bN_ge_f (a := pre.length) (b := acc.length) (by omega) (by omega) (by omega)) rfl rfl ?_
      refine w_p (pc1 := 78) rfl rfl ?_
      refine w_p (pc1 := 79) rfl rfl ?_
      refine w_p (pc1 := 81) rfl rfl ?_
      refine w_iadd (pc1 := 82) (u := nI (6 * r)) (v := nI (pre.length)) (z := nI (6 * r + (pre.length))) rfl (nK_add) rfl ?_
      refine w_m0 (pc1 := 83) (st1 := .int (nI (x)) :: _) rfl rfl (n_ile (e := 6 * r + (pre.length)) rfl rfl rfl (by omega) (ha _ _ hget)) rfl ?_
      refine w_p (pc1 := 85) rfl rfl ?_
      refine w_t (a := 93) (b := 88) (bN_ne_t (a := x) (b := q) (by omega) (by omega) (by omega)) rfl rfl ?_
      refine w_iinc (pc1 := 96) (u := nI (pre.length)) (z := nI (pre.length + 1)) (al1 := [(7, .int (nI (pre.length + 1))), (6, .int (nI (q))), (5, .int 1), (4, .int (nI (acc.length))), (0, .ref 176), (1, .int (nI (b))), (2, .ref 188), (3, .int (nI (6 * r)))]) rfl rfl rfl nK_1 rfl rfl ?_
      refine w_p (pc1 := 70) rfl rfl ?_
      have w := nB_88 hr ha h6 hb6 hq F H suf (pre ++ [x]) (by rw [List.append_assoc]; exact hp)
      rw [List.length_append, List.length_singleton] at w
      exact w
set_option maxRecDepth 100000 in
theorem nC_88 (hr : r < 24) (ha : arI (C.1 88) (6 * r) acc) (h6 : acc.length ≤ 6) (hb6 : ∀ x, x ∈ acc → x < 6) (hq : q < 6) (M : MS B n U V C0 C i nl) (H : ∀ a, P (some (.int (nI a))) (MH (fl_ C 3 (C.1 76 5)) t) 0) : ∀ suf pre : List Nat, pre ++ suf = acc → suf.contains q = true → Wd L xs (d + 2) y_216 (70, [(7, .int (nI pre.length)), (6, .int (nI q)), (5, .int 1), (4, .int (nI acc.length)), (0, .ref 176), (1, .int (nI b)), (2, .ref 188), (3, .int (nI (6 * r)))], [], MH C t, 0) P nX
  | [], pre, hp, hc => by cases hc
  | x :: suf, pre, hp, hc => by
    have hlen : pre.length < acc.length := by rw [← hp, List.length_append, List.length_cons]; omega
    have hget : acc[pre.length]? = some x := by rw [← hp, List.getElem?_append_right (Nat.le_refl _), Nat.sub_self]; rfl
    have hx6 := hb6 x (by rw [← hp]; exact List.mem_append_right _ (List.mem_cons_self ..))
    have F := FS_new (c := 3) M (by decide)
    by_cases he : x = q
    · have ha2 : arI ((fl_ C 3 (C.1 76 5)).1 88) (6 * r) acc := fun j x hx => (flt_1 (by omega)).trans (ha j x hx)
      refine w_p (pc1 := 72) rfl rfl ?_
      refine w_p (pc1 := 74) rfl rfl ?_
      refine w_f (a := 99) (b := 77) (bN_ge_f (a := pre.length) (b := acc.length) (by omega) (by omega) (by omega)) rfl rfl ?_
      refine w_p (pc1 := 78) rfl rfl ?_
      refine w_p (pc1 := 79) rfl rfl ?_
      refine w_p (pc1 := 81) rfl rfl ?_
      refine w_iadd (pc1 := 82) (u := nI (6 * r)) (v := nI (pre.length)) (z := nI (6 * r + (pre.length))) rfl (nK_add) rfl ?_
      refine w_m0 (pc1 := 83) (st1 := .int (nI (x)) :: _) rfl rfl (n_ile (e := 6 * r + (pre.length)) rfl rfl rfl (by omega) (ha _ _ hget)) rfl ?_
      refine w_p (pc1 := 85) rfl rfl ?_
      refine w_f (a := 93) (b := 88) (bN_ne_f (a := x) (b := q) (by omega) (by omega) (by omega)) rfl rfl ?_
      refine w_p (pc1 := 89) rfl rfl ?_
      refine w_p (pc1 := 90) (st1 := .int 3 :: _) rfl rfl ?_
      refine w_je (pc1 := 93) (vs := [.ref 176, .int 3]) (rest := []) (st1 := []) (m_200 (d := _) (sl := 0) (fun z => absurd M.2.1.2.1 z)) rfl rfl rfl (fun _ _ => rfl) rfl (by exact cl_v my_200 rfl rfl rfl (Nat.le_of_ble_eq_true rfl) rfl (MH_obj rfl rfl) rfl (by decide) rfl rfl) (by rfl) (Nat.le_of_ble_eq_true rfl) (Nat.le_of_ble_eq_true rfl) rfl (by rfl) ?_
      refine w_iinc (pc1 := 96) (u := nI (pre.length)) (z := nI (pre.length + 1)) (al1 := [(7, .int (nI (pre.length + 1))), (6, .int (nI (q))), (5, .int 1), (4, .int (nI (acc.length))), (0, .ref 176), (1, .int (nI (b))), (2, .ref 188), (3, .int (nI (6 * r)))]) rfl rfl rfl nK_1 rfl rfl ?_
      refine w_p (pc1 := 70) rfl rfl ?_
      have w := nB_88 (L := L) (xs := xs) (d := d) (b := b) hr ha2 h6 hb6 hq F H suf (pre ++ [x]) (by rw [List.append_assoc]; exact hp)
      rw [List.length_append, List.length_singleton] at w
      exact w
    · have hc2 : suf.contains q = true := by
        simpa [Ne.symm he] using hc
      refine w_p (pc1 := 72) rfl rfl ?_
      refine w_p (pc1 := 74) rfl rfl ?_
      refine w_f (a := 99) (b := 77) (bN_ge_f (a := pre.length) (b := acc.length) (by omega) (by omega) (by omega)) rfl rfl ?_
      refine w_p (pc1 := 78) rfl rfl ?_
      refine w_p (pc1 := 79) rfl rfl ?_
      refine w_p (pc1 := 81) rfl rfl ?_
      refine w_iadd (pc1 := 82) (u := nI (6 * r)) (v := nI (pre.length)) (z := nI (6 * r + (pre.length))) rfl (nK_add) rfl ?_
      refine w_m0 (pc1 := 83) (st1 := .int (nI (x)) :: _) rfl rfl (n_ile (e := 6 * r + (pre.length)) rfl rfl rfl (by omega) (ha _ _ hget)) rfl ?_
      refine w_p (pc1 := 85) rfl rfl ?_
      refine w_t (a := 93) (b := 88) (bN_ne_t (a := x) (b := q) (by omega) (by omega) (by omega)) rfl rfl ?_
      refine w_iinc (pc1 := 96) (u := nI (pre.length)) (z := nI (pre.length + 1)) (al1 := [(7, .int (nI (pre.length + 1))), (6, .int (nI (q))), (5, .int 1), (4, .int (nI (acc.length))), (0, .ref 176), (1, .int (nI (b))), (2, .ref 188), (3, .int (nI (6 * r)))]) rfl rfl rfl nK_1 rfl rfl ?_
      refine w_p (pc1 := 70) rfl rfl ?_
      have w := nC_88 hr ha h6 hb6 hq M H suf (pre ++ [x]) (by rw [List.append_assoc]; exact hp) hc2
      rw [List.length_append, List.length_singleton] at w
      exact w
set_option maxRecDepth 100000 in
theorem nD_88 (hr : r < 24) (ha : arI (C.1 88) (6 * r) acc) (h6 : acc.length ≤ 6) (hb6 : ∀ x, x ∈ acc → x < 6) (hq : q < 6) (M : MS B n U V C0 C i nl) (H : ∀ k', Wd L xs d y_216 (109, [(7, .int (nI k')), (6, .int (nI q)), (5, .int 1), (4, .int (nI acc.length)), (0, .ref 176), (1, .int (nI b)), (2, .ref 188), (3, .int (nI (6 * r)))], [], MH C t, 0) P nX) : ∀ suf pre : List Nat, pre ++ suf = acc → suf.contains q = false → Wd L xs d y_216 (70, [(7, .int (nI pre.length)), (6, .int (nI q)), (5, .int 1), (4, .int (nI acc.length)), (0, .ref 176), (1, .int (nI b)), (2, .ref 188), (3, .int (nI (6 * r)))], [], MH C t, 0) P nX
  | [], pre, hp, hc => by
    rw [List.append_nil] at hp
    subst hp
    refine w_p (pc1 := 72) rfl rfl ?_
    refine w_p (pc1 := 74) rfl rfl ?_
    refine w_t (a := 99) (b := 77) (bN_ge_t (a := pre.length) (b := pre.length) (by omega) (by omega) (by omega)) rfl rfl ?_
    refine w_p (pc1 := 100) rfl rfl ?_
    refine w_m0 (pc1 := 103) (st1 := .int 0 :: _) rfl rfl (h_gIe (j := 8) rfl rfl rfl rfl rfl (M.2.1.2.1)) rfl ?_
    refine w_t (a := 109) (b := 106) rfl rfl rfl ?_
    exact H _
  | x :: suf, pre, hp, hc => by
    have hlen : pre.length < acc.length := by rw [← hp, List.length_append, List.length_cons]; omega
    have hget : acc[pre.length]? = some x := by rw [← hp, List.getElem?_append_right (Nat.le_refl _), Nat.sub_self]; rfl
    have hx6 := hb6 x (by rw [← hp]; exact List.mem_append_right _ (List.mem_cons_self ..))
    have he : x ≠ q := fun e => by simp [e] at hc
    have hc2 : suf.contains q = false := by
      simpa [Ne.symm he] using hc
    refine w_p (pc1 := 72) rfl rfl ?_
    refine w_p (pc1 := 74) rfl rfl ?_
    refine w_f (a := 99) (b := 77) (bN_ge_f (a := pre.length) (b := acc.length) (by omega) (by omega) (by omega)) rfl rfl ?_
    refine w_p (pc1 := 78) rfl rfl ?_
    refine w_p (pc1 := 79) rfl rfl ?_
    refine w_p (pc1 := 81) rfl rfl ?_
    refine w_iadd (pc1 := 82) (u := nI (6 * r)) (v := nI (pre.length)) (z := nI (6 * r + (pre.length))) rfl (nK_add) rfl ?_
    refine w_m0 (pc1 := 83) (st1 := .int (nI (x)) :: _) rfl rfl (n_ile (e := 6 * r + (pre.length)) rfl rfl rfl (by omega) (ha _ _ hget)) rfl ?_
    refine w_p (pc1 := 85) rfl rfl ?_
    refine w_t (a := 93) (b := 88) (bN_ne_t (a := x) (b := q) (by omega) (by omega) (by omega)) rfl rfl ?_
    refine w_iinc (pc1 := 96) (u := nI (pre.length)) (z := nI (pre.length + 1)) (al1 := [(7, .int (nI (pre.length + 1))), (6, .int (nI (q))), (5, .int 1), (4, .int (nI (acc.length))), (0, .ref 176), (1, .int (nI (b))), (2, .ref 188), (3, .int (nI (6 * r)))]) rfl rfl rfl nK_1 rfl rfl ?_
    refine w_p (pc1 := 70) rfl rfl ?_
    have w := nD_88 hr ha h6 hb6 hq M H suf (pre ++ [x]) (by rw [List.append_assoc]; exact hp) hc2
    rw [List.length_append, List.length_singleton] at w
    exact w
set_option maxRecDepth 100000 in
theorem nX_88 {x : Int32} (F : FS B n U V C0 C c i) (H : ∀ a, P (some (.int (nI a))) (MH C t) 0) : Wd L xs d y_216 (23, [(5, .int x), (4, .int (nI k)), (0, .ref 176), (1, .int (nI b)), (2, .ref 188), (3, .int (nI (6 * r)))], [], MH C t, 0) P nX := by
  have h0 := FS_0 F
  refine w_p (pc1 := 25) rfl rfl ?_
  refine w_b (a := 159) (b := 28) rfl rfl (fun c25 => ?_) (fun c25 => ?_)
  · replace c25 := cc_eq_t c25
    refine w_p (pc1 := 161) rfl rfl ?_
    refine w_r rfl rfl rfl (fun _ _ => rfl) cr_int ?_
    exact H _
  · replace c25 := cc_eq_f c25
    refine w_p (pc1 := 29) rfl rfl ?_
    refine w_m0 (pc1 := 32) rfl rfl (h_gI (j := 8) rfl rfl rfl rfl rfl) rfl ?_
    refine w_t (a := 159) (b := 35) (cb_ne_t (by exact h0)) rfl rfl ?_
    refine w_p (pc1 := 161) rfl rfl ?_
    refine w_r rfl rfl rfl (fun _ _ => rfl) cr_int ?_
    exact H _
set_option maxRecDepth 100000 in
theorem lp_216_88 (hU : U r) (hr : r < 24) : ∀ (f i : Nat) (C : co_T) (acc : List Nat), MS B n U V C0 C i nl → TBM C sc b → arI (C.1 88) (6 * r) acc → (∀ x, x ∈ acc → x < sc.2.1 b) → acc.Nodup → nzp (rNam (tkP B n) sc b f acc i) → Wd L xs (d + 5) y_216 (23, [(5, .int 1), (4, .int (nI acc.length)), (0, .ref 176), (1, .int (nI b)), (2, .ref 188), (3, .int (nI (6 * r)))], [], MH C t, 0) (PNM B n U V C0 C t 88 r nl (pb (rNam (tkP B n) sc b f acc i) (nPre acc))) nX
  | 0, i, C, acc, M, hB, ha, hw, hn, hz => absurd rfl (hz 0)
  | f + 1, i, C, acc, M, hB, ha, hw, hn, hz => by
    have hk1 : kd B n i ≠ 1 := M.2.1.1
    have hb6 := hB.1
    have hw6 := hB.2.2.1
    have hl6 : acc.length ≤ 6 := Nat.le_trans (php _ acc hw hn) hw6
    have ha6 : ∀ x, x ∈ acc → x < 6 := fun x hx => Nat.lt_of_lt_of_le (hw x hx) hw6
    rw [nam_u]
    by_cases hk : kd B n i = 3
    · have hv : C.2.1 76 7 = vl B n i := by rw [M.2.1.2.2.2.1, hk]; rfl
      by_cases hf : clF sc b (vl B n i) = -1
      · have F := FS_new (c := 4) M (by decide)
        have hy : rCol (tkP B n) sc b acc i = .inl (4, i) := rCol_4 hk hf
        have ha2 : arI ((fl_ C 4 (C.1 76 5)).1 88) (6 * r) acc := fun j x hx => (flt_1 (by omega)).trans (ha j x hx)
        refine w_p (pc1 := 25) rfl rfl ?_
        refine w_f (a := 159) (b := 28) rfl rfl rfl ?_
        refine w_p (pc1 := 29) rfl rfl ?_
        refine w_m0 (pc1 := 32) (st1 := .int 0 :: _) rfl rfl (h_gIe (j := 8) rfl rfl rfl rfl rfl (M.2.1.2.1)) rfl ?_
        refine w_f (a := 159) (b := 35) rfl rfl rfl ?_
        refine w_p (pc1 := 36) rfl rfl ?_
        refine w_je (pc1 := 39) (vs := [.ref 176]) (rest := []) (st1 := [.int 1]) (m_207y (d := _) M hk) rfl rfl rfl (fun _ _ => rfl) rfl (by exact cl_v my_207 rfl rfl rfl (Nat.le_of_ble_eq_true rfl) rfl (MH_obj rfl rfl) rfl (by decide) rfl rfl) (by rfl) (Nat.le_of_ble_eq_true rfl) (Nat.le_of_ble_eq_true rfl) rfl (by rfl) ?_
        refine w_t (a := 45) (b := 42) rfl rfl rfl ?_
        refine w_p (pc1 := 46) rfl rfl ?_
        refine w_p (pc1 := 47) rfl rfl ?_
        refine w_p (pc1 := 48) rfl rfl ?_
        refine w_m0 (pc1 := 51) (st1 := .long (vl B n i) :: _) rfl rfl (h_gJe (j := 7) rfl rfl rfl rfl rfl (hv)) rfl ?_
        refine w_je (pc1 := 54) (vs := [.ref 176, .int (nI (b)), .long (vl B n i)]) (rest := []) (st1 := [.int (-1)]) (m_213r (d := _) (sl := 0) hB hf) rfl rfl rfl (fun _ _ => rfl) rfl (by exact cl_v my_213 rfl rfl rfl (Nat.le_of_ble_eq_true rfl) rfl (MH_obj rfl rfl) rfl (by decide) rfl rfl) (by rfl) (Nat.le_of_ble_eq_true rfl) (Nat.le_of_ble_eq_true rfl) rfl (by rfl) ?_
        refine w_p (pc1 := 56) (al1 := [(6, .int (-1)), (5, .int 1), (4, .int (nI (acc.length))), (0, .ref 176), (1, .int (nI (b))), (2, .ref 188), (3, .int (nI (6 * r)))]) rfl rfl ?_
        refine w_p (pc1 := 58) rfl rfl ?_
        refine w_p (pc1 := 59) (st1 := .int (-1) :: _) rfl rfl ?_
        refine w_f (a := 67) (b := 62) rfl rfl rfl ?_
        refine w_p (pc1 := 63) rfl rfl ?_
        refine w_p (pc1 := 64) (st1 := .int 4 :: _) rfl rfl ?_
        refine w_je (pc1 := 67) (vs := [.ref 176, .int 4]) (rest := []) (st1 := []) (m_200 (d := _) (sl := 0) (fun z => absurd M.2.1.2.1 z)) rfl rfl rfl (fun _ _ => rfl) rfl (by exact cl_v my_200 rfl rfl rfl (Nat.le_of_ble_eq_true rfl) rfl (MH_obj rfl rfl) rfl (by decide) rfl rfl) (by rfl) (Nat.le_of_ble_eq_true rfl) (Nat.le_of_ble_eq_true rfl) rfl (by rfl) ?_
        refine w_p (pc1 := 68) (st1 := .int 0 :: _) rfl rfl ?_
        refine w_p (pc1 := 70) (al1 := [(7, .int 0), (6, .int (-1)), (5, .int 1), (4, .int (nI (acc.length))), (0, .ref 176), (1, .int (nI (b))), (2, .ref 188), (3, .int (nI (6 * r)))]) rfl rfl ?_
        refine nA_88 hr ha2 hl6 ha6 F (fun a => ?_) acc [] rfl
        exact Or.inr ⟨a, rfl, ⟨_, ⟨4, i, flS_n (pb_l hy) hk1, F⟩, rfl⟩, rfl⟩
      · obtain ⟨q, hq1, hq2, hq3⟩ := clF_b hw6 hf
        have hq6 : q < 6 := Nat.lt_of_lt_of_le hq2 hw6
        by_cases hc : acc.contains q = true
        · have F := FS_new (c := 3) M (by decide)
          have hy : rCol (tkP B n) sc b acc i = .inl (3, i) := rCol_3 hk hf hq3 hc
          refine w_p (pc1 := 25) rfl rfl ?_
          refine w_f (a := 159) (b := 28) rfl rfl rfl ?_
          refine w_p (pc1 := 29) rfl rfl ?_
          refine w_m0 (pc1 := 32) (st1 := .int 0 :: _) rfl rfl (h_gIe (j := 8) rfl rfl rfl rfl rfl (M.2.1.2.1)) rfl ?_
          refine w_f (a := 159) (b := 35) rfl rfl rfl ?_
          refine w_p (pc1 := 36) rfl rfl ?_
          refine w_je (pc1 := 39) (vs := [.ref 176]) (rest := []) (st1 := [.int 1]) (m_207y (d := _) M hk) rfl rfl rfl (fun _ _ => rfl) rfl (by exact cl_v my_207 rfl rfl rfl (Nat.le_of_ble_eq_true rfl) rfl (MH_obj rfl rfl) rfl (by decide) rfl rfl) (by rfl) (Nat.le_of_ble_eq_true rfl) (Nat.le_of_ble_eq_true rfl) rfl (by rfl) ?_
          refine w_t (a := 45) (b := 42) rfl rfl rfl ?_
          refine w_p (pc1 := 46) rfl rfl ?_
          refine w_p (pc1 := 47) rfl rfl ?_
          refine w_p (pc1 := 48) rfl rfl ?_
          refine w_m0 (pc1 := 51) (st1 := .long (vl B n i) :: _) rfl rfl (h_gJe (j := 7) rfl rfl rfl rfl rfl (hv)) rfl ?_
          refine w_je (pc1 := 54) (vs := [.ref 176, .int (nI (b)), .long (vl B n i)]) (rest := []) (st1 := [.int (nI (q))]) (m_213r (d := _) (sl := 0) hB hq1) rfl rfl rfl (fun _ _ => rfl) rfl (by exact cl_v my_213 rfl rfl rfl (Nat.le_of_ble_eq_true rfl) rfl (MH_obj rfl rfl) rfl (by decide) rfl rfl) (by rfl) (Nat.le_of_ble_eq_true rfl) (Nat.le_of_ble_eq_true rfl) rfl (by rfl) ?_
          refine w_p (pc1 := 56) (al1 := [(6, .int (nI (q))), (5, .int 1), (4, .int (nI (acc.length))), (0, .ref 176), (1, .int (nI (b))), (2, .ref 188), (3, .int (nI (6 * r)))]) rfl rfl ?_
          refine w_p (pc1 := 58) rfl rfl ?_
          refine w_p (pc1 := 59) (st1 := .int (-1) :: _) rfl rfl ?_
          refine w_t (a := 67) (b := 62) (cb_ne_t (by exact nK_m1 (by omega))) rfl rfl ?_
          refine w_p (pc1 := 68) (st1 := .int 0 :: _) rfl rfl ?_
          refine w_p (pc1 := 70) (al1 := [(7, .int 0), (6, .int (nI (q))), (5, .int 1), (4, .int (nI (acc.length))), (0, .ref 176), (1, .int (nI (b))), (2, .ref 188), (3, .int (nI (6 * r)))]) rfl rfl ?_
          refine nC_88 hr ha hl6 ha6 hq6 M (fun a => ?_) acc [] rfl hc
          exact Or.inr ⟨a, rfl, ⟨_, ⟨3, i, flS_n (pb_l hy) hk1, F⟩, rfl⟩, rfl⟩
        · have hc : acc.contains q = false := by cases h : acc.contains q with
            | true => exact absurd h hc
            | false => rfl
          have hy : rCol (tkP B n) sc b acc i = .inr (q, i + 1) := rCol_s hk hf hq3 hc
          rw [pb_r hy]
          have hn2 := nd_s hn hc
          have hw2 : ∀ x, x ∈ acc ++ [q] → x < sc.2.1 b := fun x hx => by
            rcases List.mem_append.mp hx with h | h
            · exact hw x h
            · rw [List.mem_singleton.mp h]
              exact hq2
          have hl5 : acc.length < 6 := by
            have := php _ (acc ++ [q]) hw2 hn2
            rw [List.length_append, List.length_singleton] at this
            omega
          have M1 := MS_I (v := nI q) M (sx_c (V := V) (k := 88) (j := 6 * r + acc.length) hU (by omega) (by omega)) (by omega)
          have f1 : fN 88 r C (sI C 88 (6 * r + acc.length) (nI q)) := fN_I (by omega)
          have a1 : arI ((sI C 88 (6 * r + acc.length) (nI q)).1 88) (6 * r) (acc ++ [q]) := arI_s (fun j x hx => by
            have hj : j < acc.length := (List.getElem?_eq_some_iff.mp hx).1
            rw [sI_1, if_neg (by omega)]
            exact ha j x hx) (by rw [sI_1, if_pos ⟨rfl, rfl⟩])
          refine w_p (pc1 := 25) rfl rfl ?_
          refine w_f (a := 159) (b := 28) rfl rfl rfl ?_
          refine w_p (pc1 := 29) rfl rfl ?_
          refine w_m0 (pc1 := 32) (st1 := .int 0 :: _) rfl rfl (h_gIe (j := 8) rfl rfl rfl rfl rfl (M.2.1.2.1)) rfl ?_
          refine w_f (a := 159) (b := 35) rfl rfl rfl ?_
          refine w_p (pc1 := 36) rfl rfl ?_
          refine w_je (pc1 := 39) (vs := [.ref 176]) (rest := []) (st1 := [.int 1]) (m_207y (d := _) M hk) rfl rfl rfl (fun _ _ => rfl) rfl (by exact cl_v my_207 rfl rfl rfl (Nat.le_of_ble_eq_true rfl) rfl (MH_obj rfl rfl) rfl (by decide) rfl rfl) (by rfl) (Nat.le_of_ble_eq_true rfl) (Nat.le_of_ble_eq_true rfl) rfl (by rfl) ?_
          refine w_t (a := 45) (b := 42) rfl rfl rfl ?_
          refine w_p (pc1 := 46) rfl rfl ?_
          refine w_p (pc1 := 47) rfl rfl ?_
          refine w_p (pc1 := 48) rfl rfl ?_
          refine w_m0 (pc1 := 51) (st1 := .long (vl B n i) :: _) rfl rfl (h_gJe (j := 7) rfl rfl rfl rfl rfl (hv)) rfl ?_
          refine w_je (pc1 := 54) (vs := [.ref 176, .int (nI (b)), .long (vl B n i)]) (rest := []) (st1 := [.int (nI (q))]) (m_213r (d := _) (sl := 0) hB hq1) rfl rfl rfl (fun _ _ => rfl) rfl (by exact cl_v my_213 rfl rfl rfl (Nat.le_of_ble_eq_true rfl) rfl (MH_obj rfl rfl) rfl (by decide) rfl rfl) (by rfl) (Nat.le_of_ble_eq_true rfl) (Nat.le_of_ble_eq_true rfl) rfl (by rfl) ?_
          refine w_p (pc1 := 56) (al1 := [(6, .int (nI (q))), (5, .int 1), (4, .int (nI (acc.length))), (0, .ref 176), (1, .int (nI (b))), (2, .ref 188), (3, .int (nI (6 * r)))]) rfl rfl ?_
          refine w_p (pc1 := 58) rfl rfl ?_
          refine w_p (pc1 := 59) (st1 := .int (-1) :: _) rfl rfl ?_
          refine w_t (a := 67) (b := 62) (cb_ne_t (by exact nK_m1 (by omega))) rfl rfl ?_
          refine w_p (pc1 := 68) (st1 := .int 0 :: _) rfl rfl ?_
          refine w_p (pc1 := 70) (al1 := [(7, .int 0), (6, .int (nI (q))), (5, .int 1), (4, .int (nI (acc.length))), (0, .ref 176), (1, .int (nI (b))), (2, .ref 188), (3, .int (nI (6 * r)))]) rfl rfl ?_
          refine nD_88 hr ha hl6 ha6 hq6 M (fun k2 => ?_) acc [] rfl hc
          by_cases h48 : kd B n (i + 1) = 48
          · skip
            refine w_p (pc1 := 110) rfl rfl ?_
            refine w_p (pc1 := 111) rfl rfl ?_
            refine w_p (pc1 := 113) rfl rfl ?_
            refine w_iadd (pc1 := 114) (u := nI (6 * r)) (v := nI (acc.length)) (z := nI (6 * r + (acc.length))) rfl (nK_add) rfl ?_
            refine w_p (pc1 := 116) rfl rfl ?_
            refine w_m0 (pc1 := 117) rfl rfl (n_is (e := 6 * r + (acc.length)) rfl rfl rfl (by omega)) rfl ?_
            refine w_iinc (pc1 := 120) (u := nI (acc.length)) (z := nI (acc.length + 1)) (al1 := [(4, .int (nI (acc.length + 1))), (7, .int (nI (k2))), (6, .int (nI (q))), (5, .int 1), (0, .ref 176), (1, .int (nI (b))), (2, .ref 188), (3, .int (nI (6 * r)))]) rfl rfl rfl nK_1 rfl rfl ?_
            refine w_p (pc1 := 121) rfl rfl ?_
            refine w_ji (pc1 := 124) (vs := [.ref 176]) (rest := []) (nS (d := _) M1 (by rw [hk]; decide)) rfl rfl rfl (fun _ _ => rfl) rfl (by exact cl_v my_195 rfl rfl rfl (Nat.le_of_ble_eq_true rfl) rfl (MH_obj rfl rfl) rfl (by decide) rfl rfl) (by rfl) (Nat.le_of_ble_eq_true rfl) (Nat.le_of_ble_eq_true rfl) rfl (fun v h1 d1 hq => ?_) (fun _ _ _ e => e.elim)
            rcases hq with ⟨hv, ⟨C2, ⟨g2, M2, f2⟩, hh⟩, hn⟩ | ⟨hv, ⟨C2, ⟨g2, F2, f2⟩, hh⟩, hn⟩
            · subst hv; subst hh; subst hn
              refine w_p (pc1 := 125) rfl rfl ?_
              refine w_m0 (pc1 := 128) (st1 := .int 0 :: _) rfl rfl (h_gIe (j := 8) rfl rfl rfl rfl rfl (M2.2.1.2.1)) rfl ?_
              refine w_f (a := 144) (b := 131) rfl rfl rfl ?_
              refine w_p (pc1 := 132) rfl rfl ?_
              refine w_p (pc1 := 134) (st1 := .int 44 :: _) rfl rfl ?_
              refine w_je (pc1 := 137) (vs := [.ref 176, .int 44]) (rest := []) (st1 := [.int 1]) (m_210t (d := _) (sl := 0) (c := 44) ((sg_k (k := 48) M2.2.1 (by decide) (by decide)).trans (decide_eq_true h48))) rfl rfl rfl (fun _ _ => rfl) rfl (by exact cl_v my_210 rfl rfl rfl (Nat.le_of_ble_eq_true rfl) rfl (MH_obj rfl rfl) rfl (by decide) rfl rfl) (by rfl) (Nat.le_of_ble_eq_true rfl) (Nat.le_of_ble_eq_true rfl) rfl (by rfl) ?_
              refine w_f (a := 144) (b := 140) rfl rfl rfl ?_
              refine w_p (pc1 := 141) (st1 := .int 1 :: _) rfl rfl ?_
              refine w_p (pc1 := 145) rfl rfl ?_
              refine w_p (pc1 := 147) (al1 := [(5, .int 1), (4, .int (nI (acc.length + 1))), (7, .int (nI (k2))), (6, .int (nI (q))), (0, .ref 176), (1, .int (nI (b))), (2, .ref 188), (3, .int (nI (6 * r)))]) rfl rfl ?_
              refine w_p (pc1 := 149) rfl rfl ?_
              refine w_f (a := 156) (b := 152) rfl rfl rfl ?_
              refine w_p (pc1 := 153) rfl rfl ?_
              refine w_ji (pc1 := 156) (vs := [.ref 176]) (rest := []) (nS (d := _) M2 (by rw [h48]; decide)) rfl rfl rfl (fun _ _ => rfl) rfl (by exact cl_v my_195 rfl rfl rfl (Nat.le_of_ble_eq_true rfl) rfl (MH_obj rfl rfl) rfl (by decide) rfl rfl) (by rfl) (Nat.le_of_ble_eq_true rfl) (Nat.le_of_ble_eq_true rfl) rfl (fun v h1 d1 hq => ?_) (fun _ _ _ e => e.elim)
              rcases hq with ⟨hv, ⟨C3, ⟨g3, M3, f3⟩, hh⟩, hn⟩ | ⟨hv, ⟨C3, ⟨g3, F3, f3⟩, hh⟩, hn⟩
              · subst hv; subst hh; subst hn
                refine w_p (pc1 := 23) rfl rfl ?_
                refine Wd_al (al := [(5, .int 1), (4, .int (nI (acc.length + 1))), (0, .ref 176), (1, .int (nI (b))), (2, .ref 188), (3, .int (nI (6 * r)))]) (sba_p [0, 1, 4, 5, 6, 7] rfl rfl) ?_
                have e3 : (acc ++ [q]).length = acc.length + 1 := by rw [List.length_append, List.length_singleton]
                show Wd L xs _ _ _ (PNM B n U V C0 C t 88 r nl (if kd B n (i + 1) = 48 then _ else _)) _
                rw [if_pos h48, ← e3]
                exact Wd_q (lp_216_88 hU hr f (i + 1 + 1) C3 (acc ++ [q]) M3 (TBM_o (TBM_o hB (fun j => by rw [f2.1 80 j (by omega), sI_1, if_neg (by omega)]) (fun j => f2.2.1 81 j (by omega))) (fun j => f3.1 80 j (by omega)) (fun j => f3.2.1 81 j (by omega))) (arI_o a1 (by rw [e3]; omega) (fun j _ _ => by rw [f3.1 88 j (by omega), f2.1 88 j (by omega)])) hw2 hn2 (nam_z hz hy h48)) (PNM_f (fN_t f1 (fN_t (fN_T f2) (fN_T f3)))) (fun _ _ _ e => e)
              · subst hv; subst hh; subst hn
                refine w_p (pc1 := 23) rfl rfl ?_
                refine Wd_al (al := [(5, .int 1), (4, .int (nI (acc.length + 1))), (0, .ref 176), (1, .int (nI (b))), (2, .ref 188), (3, .int (nI (6 * r)))]) (sba_p [0, 1, 4, 5, 6, 7] rfl rfl) ?_
                refine nX_88 F3 (fun a => Or.inr ⟨a, rfl, ⟨_, ⟨1, i + 1 + 1, ?_, F3⟩, rfl⟩, rfl⟩)
                show flS B n _ (if kd B n (i + 1) = 48 then _ else _) 1 (i + 1 + 1)
                rw [if_pos h48]
                exact flS_1 (bdS_b (bd_nam g3 (nam_z hz hy h48))) g3
            · subst hv; subst hh; subst hn
              refine w_p (pc1 := 125) rfl rfl ?_
              refine w_m0 (pc1 := 128) rfl rfl (h_gI (j := 8) rfl rfl rfl rfl rfl) rfl ?_
              refine w_t (a := 144) (b := 131) (cb_ne_t (by exact FS_0 F2)) rfl rfl ?_
              refine w_p (pc1 := 145) (st1 := .int 0 :: _) rfl rfl ?_
              refine w_p (pc1 := 147) (al1 := [(5, .int 0), (4, .int (nI (acc.length + 1))), (7, .int (nI (k2))), (6, .int (nI (q))), (0, .ref 176), (1, .int (nI (b))), (2, .ref 188), (3, .int (nI (6 * r)))]) rfl rfl ?_
              refine w_p (pc1 := 149) rfl rfl ?_
              refine w_t (a := 156) (b := 152) rfl rfl rfl ?_
              refine w_p (pc1 := 23) rfl rfl ?_
              refine Wd_al (al := [(5, .int 0), (4, .int (nI (acc.length + 1))), (0, .ref 176), (1, .int (nI (b))), (2, .ref 188), (3, .int (nI (6 * r)))]) (sba_p [0, 1, 4, 5, 6, 7] rfl rfl) ?_
              refine nX_88 F2 (fun a => Or.inr ⟨a, rfl, ⟨_, ⟨1, i + 1, ?_, F2⟩, rfl⟩, rfl⟩)
              show flS B n _ (if kd B n (i + 1) = 48 then _ else _) 1 (i + 1)
              rw [if_neg (by rw [g2]; decide)]
              exact flS_e rfl rfl g2
          · skip
            refine w_p (pc1 := 110) rfl rfl ?_
            refine w_p (pc1 := 111) rfl rfl ?_
            refine w_p (pc1 := 113) rfl rfl ?_
            refine w_iadd (pc1 := 114) (u := nI (6 * r)) (v := nI (acc.length)) (z := nI (6 * r + (acc.length))) rfl (nK_add) rfl ?_
            refine w_p (pc1 := 116) rfl rfl ?_
            refine w_m0 (pc1 := 117) rfl rfl (n_is (e := 6 * r + (acc.length)) rfl rfl rfl (by omega)) rfl ?_
            refine w_iinc (pc1 := 120) (u := nI (acc.length)) (z := nI (acc.length + 1)) (al1 := [(4, .int (nI (acc.length + 1))), (7, .int (nI (k2))), (6, .int (nI (q))), (5, .int 1), (0, .ref 176), (1, .int (nI (b))), (2, .ref 188), (3, .int (nI (6 * r)))]) rfl rfl rfl nK_1 rfl rfl ?_
            refine w_p (pc1 := 121) rfl rfl ?_
            refine w_ji (pc1 := 124) (vs := [.ref 176]) (rest := []) (nS (d := _) M1 (by rw [hk]; decide)) rfl rfl rfl (fun _ _ => rfl) rfl (by exact cl_v my_195 rfl rfl rfl (Nat.le_of_ble_eq_true rfl) rfl (MH_obj rfl rfl) rfl (by decide) rfl rfl) (by rfl) (Nat.le_of_ble_eq_true rfl) (Nat.le_of_ble_eq_true rfl) rfl (fun v h1 d1 hq => ?_) (fun _ _ _ e => e.elim)
            rcases hq with ⟨hv, ⟨C2, ⟨g2, M2, f2⟩, hh⟩, hn⟩ | ⟨hv, ⟨C2, ⟨g2, F2, f2⟩, hh⟩, hn⟩
            · subst hv; subst hh; subst hn
              refine w_p (pc1 := 125) rfl rfl ?_
              refine w_m0 (pc1 := 128) (st1 := .int 0 :: _) rfl rfl (h_gIe (j := 8) rfl rfl rfl rfl rfl (M2.2.1.2.1)) rfl ?_
              refine w_f (a := 144) (b := 131) rfl rfl rfl ?_
              refine w_p (pc1 := 132) rfl rfl ?_
              refine w_p (pc1 := 134) (st1 := .int 44 :: _) rfl rfl ?_
              refine w_je (pc1 := 137) (vs := [.ref 176, .int 44]) (rest := []) (st1 := [.int 0]) (m_210f (d := _) (sl := 0) (c := 44) ((sg_k (k := 48) M2.2.1 (by decide) (by decide)).trans (decide_eq_false h48))) rfl rfl rfl (fun _ _ => rfl) rfl (by exact cl_v my_210 rfl rfl rfl (Nat.le_of_ble_eq_true rfl) rfl (MH_obj rfl rfl) rfl (by decide) rfl rfl) (by rfl) (Nat.le_of_ble_eq_true rfl) (Nat.le_of_ble_eq_true rfl) rfl (by rfl) ?_
              refine w_t (a := 144) (b := 140) rfl rfl rfl ?_
              refine w_p (pc1 := 145) (st1 := .int 0 :: _) rfl rfl ?_
              refine w_p (pc1 := 147) (al1 := [(5, .int 0), (4, .int (nI (acc.length + 1))), (7, .int (nI (k2))), (6, .int (nI (q))), (0, .ref 176), (1, .int (nI (b))), (2, .ref 188), (3, .int (nI (6 * r)))]) rfl rfl ?_
              refine w_p (pc1 := 149) rfl rfl ?_
              refine w_t (a := 156) (b := 152) rfl rfl rfl ?_
              refine w_p (pc1 := 23) rfl rfl ?_
              refine w_p (pc1 := 25) rfl rfl ?_
              refine w_t (a := 159) (b := 28) rfl rfl rfl ?_
              refine w_p (pc1 := 161) rfl rfl ?_
              refine w_r rfl rfl rfl (fun _ _ => rfl) cr_int ?_
              refine Or.inl ⟨acc ++ [q], i + 1, ?_, ⟨_, ⟨?_, g2, M2, arI_o a1 (by rw [List.length_append, List.length_singleton]; omega) (fun j _ _ => f2.1 88 j (by omega)), fN_t f1 (fN_T f2)⟩, rfl⟩, rfl⟩
              · rw [List.length_append, List.length_singleton]
              · show (if kd B n (i + 1) = 48 then _ else _) = _
                rw [if_neg h48]
            · subst hv; subst hh; subst hn
              refine w_p (pc1 := 125) rfl rfl ?_
              refine w_m0 (pc1 := 128) rfl rfl (h_gI (j := 8) rfl rfl rfl rfl rfl) rfl ?_
              refine w_t (a := 144) (b := 131) (cb_ne_t (by exact FS_0 F2)) rfl rfl ?_
              refine w_p (pc1 := 145) (st1 := .int 0 :: _) rfl rfl ?_
              refine w_p (pc1 := 147) (al1 := [(5, .int 0), (4, .int (nI (acc.length + 1))), (7, .int (nI (k2))), (6, .int (nI (q))), (0, .ref 176), (1, .int (nI (b))), (2, .ref 188), (3, .int (nI (6 * r)))]) rfl rfl ?_
              refine w_p (pc1 := 149) rfl rfl ?_
              refine w_t (a := 156) (b := 152) rfl rfl rfl ?_
              refine w_p (pc1 := 23) rfl rfl ?_
              refine Wd_al (al := [(5, .int 0), (4, .int (nI (acc.length + 1))), (0, .ref 176), (1, .int (nI (b))), (2, .ref 188), (3, .int (nI (6 * r)))]) (sba_p [0, 1, 4, 5, 6, 7] rfl rfl) ?_
              refine nX_88 F2 (fun a => Or.inr ⟨a, rfl, ⟨_, ⟨1, i + 1, ?_, F2⟩, rfl⟩, rfl⟩)
              show flS B n _ (if kd B n (i + 1) = 48 then _ else _) 1 (i + 1)
              rw [if_neg (by rw [g2]; decide)]
              exact flS_e rfl rfl g2
    · have F := FS_new (c := 2) M (by decide)
      have hy : rCol (tkP B n) sc b acc i = .inl (2, i) := rCol_2 hk
      refine w_p (pc1 := 25) rfl rfl ?_
      refine w_f (a := 159) (b := 28) rfl rfl rfl ?_
      refine w_p (pc1 := 29) rfl rfl ?_
      refine w_m0 (pc1 := 32) (st1 := .int 0 :: _) rfl rfl (h_gIe (j := 8) rfl rfl rfl rfl rfl (M.2.1.2.1)) rfl ?_
      refine w_f (a := 159) (b := 35) rfl rfl rfl ?_
      refine w_p (pc1 := 36) rfl rfl ?_
      refine w_je (pc1 := 39) (vs := [.ref 176]) (rest := []) (st1 := [.int 0]) (m_207n (d := _) M hk) rfl rfl rfl (fun _ _ => rfl) rfl (by exact cl_v my_207 rfl rfl rfl (Nat.le_of_ble_eq_true rfl) rfl (MH_obj rfl rfl) rfl (by decide) rfl rfl) (by rfl) (Nat.le_of_ble_eq_true rfl) (Nat.le_of_ble_eq_true rfl) rfl (by rfl) ?_
      refine w_f (a := 45) (b := 42) rfl rfl rfl ?_
      refine w_p (pc1 := 44) rfl rfl ?_
      refine w_r rfl rfl rfl (fun _ _ => rfl) cr_int ?_
      exact Or.inr ⟨acc.length, rfl, ⟨_, ⟨2, i, flS_n (pb_l hy) hk1, F⟩, rfl⟩, rfl⟩
set_option maxRecDepth 100000 in
theorem m_216_88 (hU : U r) (hr : r < 24) (M : MS B n U V C0 C i nl) (hB : TBM C sc b) : Wd L xs (d + 5) y_216 (0, [(0, .ref 176), (1, .int (nI b)), (2, .ref 188), (3, .int (nI (6 * r)))], [], MH C t, 0) (PNM B n U V C0 C t 88 r nl (pb (xpP (tkP B n) 44 i) (fun j => rNam (tkP B n) sc b 7 [] j))) nX := by
  refine w_p (pc1 := 1) rfl rfl ?_
  refine w_p (pc1 := 3) (st1 := .int 40 :: _) rfl rfl ?_
  refine w_ji (pc1 := 6) (vs := [.ref 176, .int 40]) (rest := []) (m_209 (k := 44) (d := _) (by decide) (by decide) rfl M) rfl rfl rfl (fun _ _ => rfl) rfl (by exact cl_v my_209 rfl rfl rfl (Nat.le_of_ble_eq_true rfl) rfl (MH_obj rfl rfl) rfl (by decide) rfl rfl) (by rfl) (Nat.le_of_ble_eq_true rfl) (Nat.le_of_ble_eq_true rfl) rfl (fun v h1 d1 hq => ?_) (fun _ _ _ e => e.elim)
  rcases hq with ⟨hv, ⟨C1, ⟨g1, g2, M1, f1⟩, hh⟩, hn⟩ | ⟨hv, ⟨C1, ⟨c1, j1, g1, F1, f1⟩, hh⟩, hn⟩
  · subst hv; subst hh; subst hn
    refine w_p (pc1 := 7) (st1 := .int 0 :: _) rfl rfl ?_
    refine w_p (pc1 := 9) (al1 := [(4, .int 0), (0, .ref 176), (1, .int (nI (b))), (2, .ref 188), (3, .int (nI (6 * r)))]) rfl rfl ?_
    refine w_p (pc1 := 10) rfl rfl ?_
    refine w_m0 (pc1 := 13) rfl rfl (h_gI (j := 8) rfl rfl rfl rfl rfl) rfl ?_
    refine w_f (a := 20) (b := 16) (cb_ne_f (by exact M1.2.1.2.1)) rfl rfl ?_
    refine w_p (pc1 := 17) (st1 := .int 1 :: _) rfl rfl ?_
    refine w_p (pc1 := 21) rfl rfl ?_
    refine w_p (pc1 := 23) (al1 := [(5, .int 1), (4, .int 0), (0, .ref 176), (1, .int (nI (b))), (2, .ref 188), (3, .int (nI (6 * r)))]) rfl rfl ?_
    rw [pb_r (show xpP (tkP B n) 44 i = .inr (i + 1) from if_pos g1), ← nam_0 (r := rNam (tkP B n) sc b 7 [] (i + 1))]
    exact Wd_q (lp_216_88 hU hr 7 (i + 1) C1 [] M1 (TBM_o hB (fun j => f1.1 80 j (by omega)) (fun j => f1.2.1 81 j (by omega))) (fun j x hx => by cases hx) (fun x hx => by cases hx) List.nodup_nil (rNam_0 hB.2.2.1)) (PNM_f (fN_T f1)) (fun _ _ _ e => e)
  · subst hv; subst hh; subst hn
    refine w_p (pc1 := 7) (st1 := .int 0 :: _) rfl rfl ?_
    refine w_p (pc1 := 9) (al1 := [(4, .int 0), (0, .ref 176), (1, .int (nI (b))), (2, .ref 188), (3, .int (nI (6 * r)))]) rfl rfl ?_
    refine w_p (pc1 := 10) rfl rfl ?_
    refine w_m0 (pc1 := 13) rfl rfl (h_gI (j := 8) rfl rfl rfl rfl rfl) rfl ?_
    refine w_t (a := 20) (b := 16) (cb_ne_t (by exact FS_0 F1)) rfl rfl ?_
    refine w_p (pc1 := 21) (st1 := .int 0 :: _) rfl rfl ?_
    refine w_p (pc1 := 23) (al1 := [(5, .int 0), (4, .int 0), (0, .ref 176), (1, .int (nI (b))), (2, .ref 188), (3, .int (nI (6 * r)))]) rfl rfl ?_
    refine nX_88 F1 (fun a => Or.inr ⟨a, rfl, ⟨_, ⟨c1, j1, flS_b g1 (fun q hq hk => ?_), F1⟩, rfl⟩, rfl⟩)
    exact bd_nam hk (rNam_0 hB.2.2.1)
set_option maxRecDepth 100000 in
theorem m_216_88f (F : FS B n U V C0 C c i) : Wd L xs (d + 1) y_216 (0, [(0, .ref 176), (1, .int (nI b)), (2, .ref 188), (3, .int (nI (6 * r)))], [], MH C t, 0) (fun v h m => ∃ a, some (.int (nI a)) = v ∧ MH C t = h ∧ 0 = m) nX := by
  have h0 := FS_0 F
  refine w_p (pc1 := 1) rfl rfl ?_
  refine w_p (pc1 := 3) (st1 := .int 40 :: _) rfl rfl ?_
  refine w_je (pc1 := 6) (vs := [.ref 176, .int 40]) (rest := []) (st1 := []) (m_209f (d := _) F) rfl rfl rfl (fun _ _ => rfl) rfl (by exact cl_v my_209 rfl rfl rfl (Nat.le_of_ble_eq_true rfl) rfl (MH_obj rfl rfl) rfl (by decide) rfl rfl) (by rfl) (Nat.le_of_ble_eq_true rfl) (Nat.le_of_ble_eq_true rfl) rfl (by rfl) ?_
  refine w_p (pc1 := 7) (st1 := .int 0 :: _) rfl rfl ?_
  refine w_p (pc1 := 9) (al1 := [(4, .int 0), (0, .ref 176), (1, .int (nI (b))), (2, .ref 188), (3, .int (nI (6 * r)))]) rfl rfl ?_
  refine w_p (pc1 := 10) rfl rfl ?_
  refine w_m0 (pc1 := 13) rfl rfl (h_gI (j := 8) rfl rfl rfl rfl rfl) rfl ?_
  refine w_t (a := 20) (b := 16) (cb_ne_t (by exact h0)) rfl rfl ?_
  refine w_p (pc1 := 21) (st1 := .int 0 :: _) rfl rfl ?_
  refine w_p (pc1 := 23) (al1 := [(5, .int 0), (4, .int 0), (0, .ref 176), (1, .int (nI (b))), (2, .ref 188), (3, .int (nI (6 * r)))]) rfl rfl ?_
  exact nX_88 F (fun a => ⟨a, rfl, rfl, rfl⟩)
set_option maxRecDepth 100000 in
theorem nA_89 (hr : r < 24) (ha : arI (C.1 89) (6 * r) acc) (h6 : acc.length ≤ 6) (hb6 : ∀ x, x ∈ acc → x < 6) (F : FS B n U V C0 C 4 i) (H : ∀ a, P (some (.int (nI a))) (MH C t) 0) : ∀ suf pre : List Nat, pre ++ suf = acc → Wd L xs d y_216 (70, [(7, .int (nI pre.length)), (6, .int (-1)), (5, .int 1), (4, .int (nI acc.length)), (0, .ref 176), (1, .int (nI b)), (2, .ref 189), (3, .int (nI (6 * r)))], [], MH C t, 0) P nX
  | [], pre, hp => by
    rw [List.append_nil] at hp
    subst hp
    refine w_p (pc1 := 72) rfl rfl ?_
    refine w_p (pc1 := 74) rfl rfl ?_
    refine w_t (a := 99) (b := 77) (bN_ge_t (a := pre.length) (b := pre.length) (by omega) (by omega) (by omega)) rfl rfl ?_
    refine w_p (pc1 := 100) rfl rfl ?_
    refine w_m0 (pc1 := 103) (st1 := .int 4 :: _) rfl rfl (h_gIe (j := 8) rfl rfl rfl rfl rfl (F.1.2.1)) rfl ?_
    refine w_f (a := 109) (b := 106) rfl rfl rfl ?_
    refine w_p (pc1 := 108) rfl rfl ?_
    refine w_r rfl rfl rfl (fun _ _ => rfl) cr_int ?_
    exact H _
  | x :: suf, pre, hp => by
    have hlen : pre.length < acc.length := by rw [← hp, List.length_append, List.length_cons]; omega
    have hget : acc[pre.length]? = some x := by rw [← hp, List.getElem?_append_right (Nat.le_refl _), Nat.sub_self]; rfl
    have hx6 := hb6 x (by rw [← hp]; exact List.mem_append_right _ (List.mem_cons_self ..))
    refine w_p (pc1 := 72) rfl rfl ?_
    refine w_p (pc1 := 74) rfl rfl ?_
    refine w_f (a := 99) (b := 77) (bN_ge_f (a := pre.length) (b := acc.length) (by omega) (by omega) (by omega)) rfl rfl ?_
    refine w_p (pc1 := 78) rfl rfl ?_
    refine w_p (pc1 := 79) rfl rfl ?_
    refine w_p (pc1 := 81) rfl rfl ?_
    refine w_iadd (pc1 := 82) (u := nI (6 * r)) (v := nI (pre.length)) (z := nI (6 * r + (pre.length))) rfl (nK_add) rfl ?_
    refine w_m0 (pc1 := 83) (st1 := .int (nI (x)) :: _) rfl rfl (n_ile (e := 6 * r + (pre.length)) rfl rfl rfl (by omega) (ha _ _ hget)) rfl ?_
    refine w_p (pc1 := 85) rfl rfl ?_
    refine w_t (a := 93) (b := 88) (cb_ne_t (by exact nK_m1 (by omega))) rfl rfl ?_
    refine w_iinc (pc1 := 96) (u := nI (pre.length)) (z := nI (pre.length + 1)) (al1 := [(7, .int (nI (pre.length + 1))), (6, .int (-1)), (5, .int 1), (4, .int (nI (acc.length))), (0, .ref 176), (1, .int (nI (b))), (2, .ref 189), (3, .int (nI (6 * r)))]) rfl rfl rfl nK_1 rfl rfl ?_
    refine w_p (pc1 := 70) rfl rfl ?_
    have w := nA_89 hr ha h6 hb6 F H suf (pre ++ [x]) (by rw [List.append_assoc]; exact hp)
    rw [List.length_append, List.length_singleton] at w
    exact w
set_option maxRecDepth 100000 in
theorem nB_89 (hr : r < 24) (ha : arI (C.1 89) (6 * r) acc) (h6 : acc.length ≤ 6) (hb6 : ∀ x, x ∈ acc → x < 6) (hq : q < 6) (F : FS B n U V C0 C 3 i) (H : ∀ a, P (some (.int (nI a))) (MH C t) 0) : ∀ suf pre : List Nat, pre ++ suf = acc → Wd L xs (d + 2) y_216 (70, [(7, .int (nI pre.length)), (6, .int (nI q)), (5, .int 1), (4, .int (nI acc.length)), (0, .ref 176), (1, .int (nI b)), (2, .ref 189), (3, .int (nI (6 * r)))], [], MH C t, 0) P nX
  | [], pre, hp => by
    rw [List.append_nil] at hp
    subst hp
    refine w_p (pc1 := 72) rfl rfl ?_
    refine w_p (pc1 := 74) rfl rfl ?_
    refine w_t (a := 99) (b := 77) (bN_ge_t (a := pre.length) (b := pre.length) (by omega) (by omega) (by omega)) rfl rfl ?_
    refine w_p (pc1 := 100) rfl rfl ?_
    refine w_m0 (pc1 := 103) (st1 := .int 3 :: _) rfl rfl (h_gIe (j := 8) rfl rfl rfl rfl rfl (F.1.2.1)) rfl ?_
    refine w_f (a := 109) (b := 106) rfl rfl rfl ?_
    refine w_p (pc1 := 108) rfl rfl ?_
    refine w_r rfl rfl rfl (fun _ _ => rfl) cr_int ?_
    exact H _
  | x :: suf, pre, hp => by
    have hlen : pre.length < acc.length := by rw [← hp, List.length_append, List.length_cons]; omega
    have hget : acc[pre.length]? = some x := by rw [← hp, List.getElem?_append_right (Nat.le_refl _), Nat.sub_self]; rfl
    have hx6 := hb6 x (by rw [← hp]; exact List.mem_append_right _ (List.mem_cons_self ..))
    by_cases he : x = q
    · skip
      refine w_p (pc1 := 72) rfl rfl ?_
      refine w_p (pc1 := 74) rfl rfl ?_
      refine w_f (a := 99) (b := 77) (bN_ge_f (a := pre.length) (b := acc.length) (by omega) (by omega) (by omega)) rfl rfl ?_
      refine w_p (pc1 := 78) rfl rfl ?_
      refine w_p (pc1 := 79) rfl rfl ?_
      refine w_p (pc1 := 81) rfl rfl ?_
      refine w_iadd (pc1 := 82) (u := nI (6 * r)) (v := nI (pre.length)) (z := nI (6 * r + (pre.length))) rfl (nK_add) rfl ?_
      refine w_m0 (pc1 := 83) (st1 := .int (nI (x)) :: _) rfl rfl (n_ile (e := 6 * r + (pre.length)) rfl rfl rfl (by omega) (ha _ _ hget)) rfl ?_
      refine w_p (pc1 := 85) rfl rfl ?_
      refine w_f (a := 93) (b := 88) (bN_ne_f (a := x) (b := q) (by omega) (by omega) (by omega)) rfl rfl ?_
      refine w_p (pc1 := 89) rfl rfl ?_
      refine w_p (pc1 := 90) (st1 := .int 3 :: _) rfl rfl ?_
      refine w_je (pc1 := 93) (vs := [.ref 176, .int 3]) (rest := []) (st1 := []) (hF (d := _) (c' := 3) F (by decide)) rfl rfl rfl (fun _ _ => rfl) rfl (by exact cl_v my_200 rfl rfl rfl (Nat.le_of_ble_eq_true rfl) rfl (MH_obj rfl rfl) rfl (by decide) rfl rfl) (by rfl) (Nat.le_of_ble_eq_true rfl) (Nat.le_of_ble_eq_true rfl) rfl (by rfl) ?_
      refine w_iinc (pc1 := 96) (u := nI (pre.length)) (z := nI (pre.length + 1)) (al1 := [(7, .int (nI (pre.length + 1))), (6, .int (nI (q))), (5, .int 1), (4, .int (nI (acc.length))), (0, .ref 176), (1, .int (nI (b))), (2, .ref 189), (3, .int (nI (6 * r)))]) rfl rfl rfl nK_1 rfl rfl ?_
      refine w_p (pc1 := 70) rfl rfl ?_
      have w := nB_89 hr ha h6 hb6 hq F H suf (pre ++ [x]) (by rw [List.append_assoc]; exact hp)
      rw [List.length_append, List.length_singleton] at w
      exact w
    · skip
      refine w_p (pc1 := 72) rfl rfl ?_
      refine w_p (pc1 := 74) rfl rfl ?_
      refine w_f (a := 99) (b := 77) (bN_ge_f (a := pre.length) (b := acc.length) (by omega) (by omega) (by omega)) rfl rfl ?_
      refine w_p (pc1 := 78) rfl rfl ?_
      refine w_p (pc1 := 79) rfl rfl ?_
      refine w_p (pc1 := 81) rfl rfl ?_
      refine w_iadd (pc1 := 82) (u := nI (6 * r)) (v := nI (pre.length)) (z := nI (6 * r + (pre.length))) rfl (nK_add) rfl ?_
      refine w_m0 (pc1 := 83) (st1 := .int (nI (x)) :: _) rfl rfl (n_ile (e := 6 * r + (pre.length)) rfl rfl rfl (by omega) (ha _ _ hget)) rfl ?_
      refine w_p (pc1 := 85) rfl rfl ?_
      refine w_t (a := 93) (b := 88) (bN_ne_t (a := x) (b := q) (by omega) (by omega) (by omega)) rfl rfl ?_
      refine w_iinc (pc1 := 96) (u := nI (pre.length)) (z := nI (pre.length + 1)) (al1 := [(7, .int (nI (pre.length + 1))), (6, .int (nI (q))), (5, .int 1), (4, .int (nI (acc.length))), (0, .ref 176), (1, .int (nI (b))), (2, .ref 189), (3, .int (nI (6 * r)))]) rfl rfl rfl nK_1 rfl rfl ?_
      refine w_p (pc1 := 70) rfl rfl ?_
      have w := nB_89 hr ha h6 hb6 hq F H suf (pre ++ [x]) (by rw [List.append_assoc]; exact hp)
      rw [List.length_append, List.length_singleton] at w
      exact w
set_option maxRecDepth 100000 in
theorem nC_89 (hr : r < 24) (ha : arI (C.1 89) (6 * r) acc) (h6 : acc.length ≤ 6) (hb6 : ∀ x, x ∈ acc → x < 6) (hq : q < 6) (M : MS B n U V C0 C i nl) (H : ∀ a, P (some (.int (nI a))) (MH (fl_ C 3 (C.1 76 5)) t) 0) : ∀ suf pre : List Nat, pre ++ suf = acc → suf.contains q = true → Wd L xs (d + 2) y_216 (70, [(7, .int (nI pre.length)), (6, .int (nI q)), (5, .int 1), (4, .int (nI acc.length)), (0, .ref 176), (1, .int (nI b)), (2, .ref 189), (3, .int (nI (6 * r)))], [], MH C t, 0) P nX
  | [], pre, hp, hc => by cases hc
  | x :: suf, pre, hp, hc => by
    have hlen : pre.length < acc.length := by rw [← hp, List.length_append, List.length_cons]; omega
    have hget : acc[pre.length]? = some x := by rw [← hp, List.getElem?_append_right (Nat.le_refl _), Nat.sub_self]; rfl
    have hx6 := hb6 x (by rw [← hp]; exact List.mem_append_right _ (List.mem_cons_self ..))
    have F := FS_new (c := 3) M (by decide)
    by_cases he : x = q
    · have ha2 : arI ((fl_ C 3 (C.1 76 5)).1 89) (6 * r) acc := fun j x hx => (flt_1 (by omega)).trans (ha j x hx)
      refine w_p (pc1 := 72) rfl rfl ?_
      refine w_p (pc1 := 74) rfl rfl ?_
      refine w_f (a := 99) (b := 77) (bN_ge_f (a := pre.length) (b := acc.length) (by omega) (by omega) (by omega)) rfl rfl ?_
      refine w_p (pc1 := 78) rfl rfl ?_
      refine w_p (pc1 := 79) rfl rfl ?_
      refine w_p (pc1 := 81) rfl rfl ?_
      refine w_iadd (pc1 := 82) (u := nI (6 * r)) (v := nI (pre.length)) (z := nI (6 * r + (pre.length))) rfl (nK_add) rfl ?_
      refine w_m0 (pc1 := 83) (st1 := .int (nI (x)) :: _) rfl rfl (n_ile (e := 6 * r + (pre.length)) rfl rfl rfl (by omega) (ha _ _ hget)) rfl ?_
      refine w_p (pc1 := 85) rfl rfl ?_
      refine w_f (a := 93) (b := 88) (bN_ne_f (a := x) (b := q) (by omega) (by omega) (by omega)) rfl rfl ?_
      refine w_p (pc1 := 89) rfl rfl ?_
      refine w_p (pc1 := 90) (st1 := .int 3 :: _) rfl rfl ?_
      refine w_je (pc1 := 93) (vs := [.ref 176, .int 3]) (rest := []) (st1 := []) (m_200 (d := _) (sl := 0) (fun z => absurd M.2.1.2.1 z)) rfl rfl rfl (fun _ _ => rfl) rfl (by exact cl_v my_200 rfl rfl rfl (Nat.le_of_ble_eq_true rfl) rfl (MH_obj rfl rfl) rfl (by decide) rfl rfl) (by rfl) (Nat.le_of_ble_eq_true rfl) (Nat.le_of_ble_eq_true rfl) rfl (by rfl) ?_
      refine w_iinc (pc1 := 96) (u := nI (pre.length)) (z := nI (pre.length + 1)) (al1 := [(7, .int (nI (pre.length + 1))), (6, .int (nI (q))), (5, .int 1), (4, .int (nI (acc.length))), (0, .ref 176), (1, .int (nI (b))), (2, .ref 189), (3, .int (nI (6 * r)))]) rfl rfl rfl nK_1 rfl rfl ?_
      refine w_p (pc1 := 70) rfl rfl ?_
      have w := nB_89 (L := L) (xs := xs) (d := d) (b := b) hr ha2 h6 hb6 hq F H suf (pre ++ [x]) (by rw [List.append_assoc]; exact hp)
      rw [List.length_append, List.length_singleton] at w
      exact w
    · have hc2 : suf.contains q = true := by
        simpa [Ne.symm he] using hc
      refine w_p (pc1 := 72) rfl rfl ?_
      refine w_p (pc1 := 74) rfl rfl ?_
      refine w_f (a := 99) (b := 77) (bN_ge_f (a := pre.length) (b := acc.length) (by omega) (by omega) (by omega)) rfl rfl ?_
      refine w_p (pc1 := 78) rfl rfl ?_
      refine w_p (pc1 := 79) rfl rfl ?_
      refine w_p (pc1 := 81) rfl rfl ?_
      refine w_iadd (pc1 := 82) (u := nI (6 * r)) (v := nI (pre.length)) (z := nI (6 * r + (pre.length))) rfl (nK_add) rfl ?_
      refine w_m0 (pc1 := 83) (st1 := .int (nI (x)) :: _) rfl rfl (n_ile (e := 6 * r + (pre.length)) rfl rfl rfl (by omega) (ha _ _ hget)) rfl ?_
      refine w_p (pc1 := 85) rfl rfl ?_
      refine w_t (a := 93) (b := 88) (bN_ne_t (a := x) (b := q) (by omega) (by omega) (by omega)) rfl rfl ?_
      refine w_iinc (pc1 := 96) (u := nI (pre.length)) (z := nI (pre.length + 1)) (al1 := [(7, .int (nI (pre.length + 1))), (6, .int (nI (q))), (5, .int 1), (4, .int (nI (acc.length))), (0, .ref 176), (1, .int (nI (b))), (2, .ref 189), (3, .int (nI (6 * r)))]) rfl rfl rfl nK_1 rfl rfl ?_
      refine w_p (pc1 := 70) rfl rfl ?_
      have w := nC_89 hr ha h6 hb6 hq M H suf (pre ++ [x]) (by rw [List.append_assoc]; exact hp) hc2
      rw [List.length_append, List.length_singleton] at w
      exact w
set_option maxRecDepth 100000 in
theorem nD_89 (hr : r < 24) (ha : arI (C.1 89) (6 * r) acc) (h6 : acc.length ≤ 6) (hb6 : ∀ x, x ∈ acc → x < 6) (hq : q < 6) (M : MS B n U V C0 C i nl) (H : ∀ k', Wd L xs d y_216 (109, [(7, .int (nI k')), (6, .int (nI q)), (5, .int 1), (4, .int (nI acc.length)), (0, .ref 176), (1, .int (nI b)), (2, .ref 189), (3, .int (nI (6 * r)))], [], MH C t, 0) P nX) : ∀ suf pre : List Nat, pre ++ suf = acc → suf.contains q = false → Wd L xs d y_216 (70, [(7, .int (nI pre.length)), (6, .int (nI q)), (5, .int 1), (4, .int (nI acc.length)), (0, .ref 176), (1, .int (nI b)), (2, .ref 189), (3, .int (nI (6 * r)))], [], MH C t, 0) P nX
  | [], pre, hp, hc => by
    rw [List.append_nil] at hp
    subst hp
    refine w_p (pc1 := 72) rfl rfl ?_
    refine w_p (pc1 := 74) rfl rfl ?_
    refine w_t (a := 99) (b := 77) (bN_ge_t (a := pre.length) (b := pre.length) (by omega) (by omega) (by omega)) rfl rfl ?_
    refine w_p (pc1 := 100) rfl rfl ?_
    refine w_m0 (pc1 := 103) (st1 := .int 0 :: _) rfl rfl (h_gIe (j := 8) rfl rfl rfl rfl rfl (M.2.1.2.1)) rfl ?_
    refine w_t (a := 109) (b := 106) rfl rfl rfl ?_
    exact H _
  | x :: suf, pre, hp, hc => by
    have hlen : pre.length < acc.length := by rw [← hp, List.length_append, List.length_cons]; omega
    have hget : acc[pre.length]? = some x := by rw [← hp, List.getElem?_append_right (Nat.le_refl _), Nat.sub_self]; rfl
    have hx6 := hb6 x (by rw [← hp]; exact List.mem_append_right _ (List.mem_cons_self ..))
    have he : x ≠ q := fun e => by simp [e] at hc
    have hc2 : suf.contains q = false := by
      simpa [Ne.symm he] using hc
    refine w_p (pc1 := 72) rfl rfl ?_
    refine w_p (pc1 := 74) rfl rfl ?_
    refine w_f (a := 99) (b := 77) (bN_ge_f (a := pre.length) (b := acc.length) (by omega) (by omega) (by omega)) rfl rfl ?_
    refine w_p (pc1 := 78) rfl rfl ?_
    refine w_p (pc1 := 79) rfl rfl ?_
    refine w_p (pc1 := 81) rfl rfl ?_
    refine w_iadd (pc1 := 82) (u := nI (6 * r)) (v := nI (pre.length)) (z := nI (6 * r + (pre.length))) rfl (nK_add) rfl ?_
    refine w_m0 (pc1 := 83) (st1 := .int (nI (x)) :: _) rfl rfl (n_ile (e := 6 * r + (pre.length)) rfl rfl rfl (by omega) (ha _ _ hget)) rfl ?_
    refine w_p (pc1 := 85) rfl rfl ?_
    refine w_t (a := 93) (b := 88) (bN_ne_t (a := x) (b := q) (by omega) (by omega) (by omega)) rfl rfl ?_
    refine w_iinc (pc1 := 96) (u := nI (pre.length)) (z := nI (pre.length + 1)) (al1 := [(7, .int (nI (pre.length + 1))), (6, .int (nI (q))), (5, .int 1), (4, .int (nI (acc.length))), (0, .ref 176), (1, .int (nI (b))), (2, .ref 189), (3, .int (nI (6 * r)))]) rfl rfl rfl nK_1 rfl rfl ?_
    refine w_p (pc1 := 70) rfl rfl ?_
    have w := nD_89 hr ha h6 hb6 hq M H suf (pre ++ [x]) (by rw [List.append_assoc]; exact hp) hc2
    rw [List.length_append, List.length_singleton] at w
    exact w
set_option maxRecDepth 100000 in
theorem nX_89 {x : Int32} (F : FS B n U V C0 C c i) (H : ∀ a, P (some (.int (nI a))) (MH C t) 0) : Wd L xs d y_216 (23, [(5, .int x), (4, .int (nI k)), (0, .ref 176), (1, .int (nI b)), (2, .ref 189), (3, .int (nI (6 * r)))], [], MH C t, 0) P nX := by
  have h0 := FS_0 F
  refine w_p (pc1 := 25) rfl rfl ?_
  refine w_b (a := 159) (b := 28) rfl rfl (fun c25 => ?_) (fun c25 => ?_)
  · replace c25 := cc_eq_t c25
    refine w_p (pc1 := 161) rfl rfl ?_
    refine w_r rfl rfl rfl (fun _ _ => rfl) cr_int ?_
    exact H _
  · replace c25 := cc_eq_f c25
    refine w_p (pc1 := 29) rfl rfl ?_
    refine w_m0 (pc1 := 32) rfl rfl (h_gI (j := 8) rfl rfl rfl rfl rfl) rfl ?_
    refine w_t (a := 159) (b := 35) (cb_ne_t (by exact h0)) rfl rfl ?_
    refine w_p (pc1 := 161) rfl rfl ?_
    refine w_r rfl rfl rfl (fun _ _ => rfl) cr_int ?_
    exact H _
set_option maxRecDepth 100000 in
theorem lp_216_89 (hU : U r) (hr : r < 24) : ∀ (f i : Nat) (C : co_T) (acc : List Nat), MS B n U V C0 C i nl → TBM C sc b → arI (C.1 89) (6 * r) acc → (∀ x, x ∈ acc → x < sc.2.1 b) → acc.Nodup → nzp (rNam (tkP B n) sc b f acc i) → Wd L xs (d + 5) y_216 (23, [(5, .int 1), (4, .int (nI acc.length)), (0, .ref 176), (1, .int (nI b)), (2, .ref 189), (3, .int (nI (6 * r)))], [], MH C t, 0) (PNM B n U V C0 C t 89 r nl (pb (rNam (tkP B n) sc b f acc i) (nPre acc))) nX
  | 0, i, C, acc, M, hB, ha, hw, hn, hz => absurd rfl (hz 0)
  | f + 1, i, C, acc, M, hB, ha, hw, hn, hz => by
    have hk1 : kd B n i ≠ 1 := M.2.1.1
    have hb6 := hB.1
    have hw6 := hB.2.2.1
    have hl6 : acc.length ≤ 6 := Nat.le_trans (php _ acc hw hn) hw6
    have ha6 : ∀ x, x ∈ acc → x < 6 := fun x hx => Nat.lt_of_lt_of_le (hw x hx) hw6
    rw [nam_u]
    by_cases hk : kd B n i = 3
    · have hv : C.2.1 76 7 = vl B n i := by rw [M.2.1.2.2.2.1, hk]; rfl
      by_cases hf : clF sc b (vl B n i) = -1
      · have F := FS_new (c := 4) M (by decide)
        have hy : rCol (tkP B n) sc b acc i = .inl (4, i) := rCol_4 hk hf
        have ha2 : arI ((fl_ C 4 (C.1 76 5)).1 89) (6 * r) acc := fun j x hx => (flt_1 (by omega)).trans (ha j x hx)
        refine w_p (pc1 := 25) rfl rfl ?_
        refine w_f (a := 159) (b := 28) rfl rfl rfl ?_
        refine w_p (pc1 := 29) rfl rfl ?_
        refine w_m0 (pc1 := 32) (st1 := .int 0 :: _) rfl rfl (h_gIe (j := 8) rfl rfl rfl rfl rfl (M.2.1.2.1)) rfl ?_
        refine w_f (a := 159) (b := 35) rfl rfl rfl ?_
        refine w_p (pc1 := 36) rfl rfl ?_
        refine w_je (pc1 := 39) (vs := [.ref 176]) (rest := []) (st1 := [.int 1]) (m_207y (d := _) M hk) rfl rfl rfl (fun _ _ => rfl) rfl (by exact cl_v my_207 rfl rfl rfl (Nat.le_of_ble_eq_true rfl) rfl (MH_obj rfl rfl) rfl (by decide) rfl rfl) (by rfl) (Nat.le_of_ble_eq_true rfl) (Nat.le_of_ble_eq_true rfl) rfl (by rfl) ?_
        refine w_t (a := 45) (b := 42) rfl rfl rfl ?_
        refine w_p (pc1 := 46) rfl rfl ?_
        refine w_p (pc1 := 47) rfl rfl ?_
        refine w_p (pc1 := 48) rfl rfl ?_
        refine w_m0 (pc1 := 51) (st1 := .long (vl B n i) :: _) rfl rfl (h_gJe (j := 7) rfl rfl rfl rfl rfl (hv)) rfl ?_
        refine w_je (pc1 := 54) (vs := [.ref 176, .int (nI (b)), .long (vl B n i)]) (rest := []) (st1 := [.int (-1)]) (m_213r (d := _) (sl := 0) hB hf) rfl rfl rfl (fun _ _ => rfl) rfl (by exact cl_v my_213 rfl rfl rfl (Nat.le_of_ble_eq_true rfl) rfl (MH_obj rfl rfl) rfl (by decide) rfl rfl) (by rfl) (Nat.le_of_ble_eq_true rfl) (Nat.le_of_ble_eq_true rfl) rfl (by rfl) ?_
        refine w_p (pc1 := 56) (al1 := [(6, .int (-1)), (5, .int 1), (4, .int (nI (acc.length))), (0, .ref 176), (1, .int (nI (b))), (2, .ref 189), (3, .int (nI (6 * r)))]) rfl rfl ?_
        refine w_p (pc1 := 58) rfl rfl ?_
        refine w_p (pc1 := 59) (st1 := .int (-1) :: _) rfl rfl ?_
        refine w_f (a := 67) (b := 62) rfl rfl rfl ?_
        refine w_p (pc1 := 63) rfl rfl ?_
        refine w_p (pc1 := 64) (st1 := .int 4 :: _) rfl rfl ?_
        refine w_je (pc1 := 67) (vs := [.ref 176, .int 4]) (rest := []) (st1 := []) (m_200 (d := _) (sl := 0) (fun z => absurd M.2.1.2.1 z)) rfl rfl rfl (fun _ _ => rfl) rfl (by exact cl_v my_200 rfl rfl rfl (Nat.le_of_ble_eq_true rfl) rfl (MH_obj rfl rfl) rfl (by decide) rfl rfl) (by rfl) (Nat.le_of_ble_eq_true rfl) (Nat.le_of_ble_eq_true rfl) rfl (by rfl) ?_
        refine w_p (pc1 := 68) (st1 := .int 0 :: _) rfl rfl ?_
        refine w_p (pc1 := 70) (al1 := [(7, .int 0), (6, .int (-1)), (5, .int 1), (4, .int (nI (acc.length))), (0, .ref 176), (1, .int (nI (b))), (2, .ref 189), (3, .int (nI (6 * r)))]) rfl rfl ?_
        refine nA_89 hr ha2 hl6 ha6 F (fun a => ?_) acc [] rfl
        exact Or.inr ⟨a, rfl, ⟨_, ⟨4, i, flS_n (pb_l hy) hk1, F⟩, rfl⟩, rfl⟩
      · obtain ⟨q, hq1, hq2, hq3⟩ := clF_b hw6 hf
        have hq6 : q < 6 := Nat.lt_of_lt_of_le hq2 hw6
        by_cases hc : acc.contains q = true
        · have F := FS_new (c := 3) M (by decide)
          have hy : rCol (tkP B n) sc b acc i = .inl (3, i) := rCol_3 hk hf hq3 hc
          refine w_p (pc1 := 25) rfl rfl ?_
          refine w_f (a := 159) (b := 28) rfl rfl rfl ?_
          refine w_p (pc1 := 29) rfl rfl ?_
          refine w_m0 (pc1 := 32) (st1 := .int 0 :: _) rfl rfl (h_gIe (j := 8) rfl rfl rfl rfl rfl (M.2.1.2.1)) rfl ?_
          refine w_f (a := 159) (b := 35) rfl rfl rfl ?_
          refine w_p (pc1 := 36) rfl rfl ?_
          refine w_je (pc1 := 39) (vs := [.ref 176]) (rest := []) (st1 := [.int 1]) (m_207y (d := _) M hk) rfl rfl rfl (fun _ _ => rfl) rfl (by exact cl_v my_207 rfl rfl rfl (Nat.le_of_ble_eq_true rfl) rfl (MH_obj rfl rfl) rfl (by decide) rfl rfl) (by rfl) (Nat.le_of_ble_eq_true rfl) (Nat.le_of_ble_eq_true rfl) rfl (by rfl) ?_
          refine w_t (a := 45) (b := 42) rfl rfl rfl ?_
          refine w_p (pc1 := 46) rfl rfl ?_
          refine w_p (pc1 := 47) rfl rfl ?_
          refine w_p (pc1 := 48) rfl rfl ?_
          refine w_m0 (pc1 := 51) (st1 := .long (vl B n i) :: _) rfl rfl (h_gJe (j := 7) rfl rfl rfl rfl rfl (hv)) rfl ?_
          refine w_je (pc1 := 54) (vs := [.ref 176, .int (nI (b)), .long (vl B n i)]) (rest := []) (st1 := [.int (nI (q))]) (m_213r (d := _) (sl := 0) hB hq1) rfl rfl rfl (fun _ _ => rfl) rfl (by exact cl_v my_213 rfl rfl rfl (Nat.le_of_ble_eq_true rfl) rfl (MH_obj rfl rfl) rfl (by decide) rfl rfl) (by rfl) (Nat.le_of_ble_eq_true rfl) (Nat.le_of_ble_eq_true rfl) rfl (by rfl) ?_
          refine w_p (pc1 := 56) (al1 := [(6, .int (nI (q))), (5, .int 1), (4, .int (nI (acc.length))), (0, .ref 176), (1, .int (nI (b))), (2, .ref 189), (3, .int (nI (6 * r)))]) rfl rfl ?_
          refine w_p (pc1 := 58) rfl rfl ?_
          refine w_p (pc1 := 59) (st1 := .int (-1) :: _) rfl rfl ?_
          refine w_t (a := 67) (b := 62) (cb_ne_t (by exact nK_m1 (by omega))) rfl rfl ?_
          refine w_p (pc1 := 68) (st1 := .int 0 :: _) rfl rfl ?_
          refine w_p (pc1 := 70) (al1 := [(7, .int 0), (6, .int (nI (q))), (5, .int 1), (4, .int (nI (acc.length))), (0, .ref 176), (1, .int (nI (b))), (2, .ref 189), (3, .int (nI (6 * r)))]) rfl rfl ?_
          refine nC_89 hr ha hl6 ha6 hq6 M (fun a => ?_) acc [] rfl hc
          exact Or.inr ⟨a, rfl, ⟨_, ⟨3, i, flS_n (pb_l hy) hk1, F⟩, rfl⟩, rfl⟩
        · have hc : acc.contains q = false := by cases h : acc.contains q with
            | true => exact absurd h hc
            | false => rfl
          have hy : rCol (tkP B n) sc b acc i = .inr (q, i + 1) := rCol_s hk hf hq3 hc
          rw [pb_r hy]
          have hn2 := nd_s hn hc
          have hw2 : ∀ x, x ∈ acc ++ [q] → x < sc.2.1 b := fun x hx => by
            rcases List.mem_append.mp hx with h | h
            · exact hw x h
            · rw [List.mem_singleton.mp h]
              exact hq2
          have hl5 : acc.length < 6 := by
            have := php _ (acc ++ [q]) hw2 hn2
            rw [List.length_append, List.length_singleton] at this
            omega
          have M1 := MS_I (v := nI q) M (sx_c (V := V) (k := 89) (j := 6 * r + acc.length) hU (by omega) (by omega)) (by omega)
          have f1 : fN 89 r C (sI C 89 (6 * r + acc.length) (nI q)) := fN_I (by omega)
          have a1 : arI ((sI C 89 (6 * r + acc.length) (nI q)).1 89) (6 * r) (acc ++ [q]) := arI_s (fun j x hx => by
            have hj : j < acc.length := (List.getElem?_eq_some_iff.mp hx).1
            rw [sI_1, if_neg (by omega)]
            exact ha j x hx) (by rw [sI_1, if_pos ⟨rfl, rfl⟩])
          refine w_p (pc1 := 25) rfl rfl ?_
          refine w_f (a := 159) (b := 28) rfl rfl rfl ?_
          refine w_p (pc1 := 29) rfl rfl ?_
          refine w_m0 (pc1 := 32) (st1 := .int 0 :: _) rfl rfl (h_gIe (j := 8) rfl rfl rfl rfl rfl (M.2.1.2.1)) rfl ?_
          refine w_f (a := 159) (b := 35) rfl rfl rfl ?_
          refine w_p (pc1 := 36) rfl rfl ?_
          refine w_je (pc1 := 39) (vs := [.ref 176]) (rest := []) (st1 := [.int 1]) (m_207y (d := _) M hk) rfl rfl rfl (fun _ _ => rfl) rfl (by exact cl_v my_207 rfl rfl rfl (Nat.le_of_ble_eq_true rfl) rfl (MH_obj rfl rfl) rfl (by decide) rfl rfl) (by rfl) (Nat.le_of_ble_eq_true rfl) (Nat.le_of_ble_eq_true rfl) rfl (by rfl) ?_
          refine w_t (a := 45) (b := 42) rfl rfl rfl ?_
          refine w_p (pc1 := 46) rfl rfl ?_
          refine w_p (pc1 := 47) rfl rfl ?_
          refine w_p (pc1 := 48) rfl rfl ?_
          refine w_m0 (pc1 := 51) (st1 := .long (vl B n i) :: _) rfl rfl (h_gJe (j := 7) rfl rfl rfl rfl rfl (hv)) rfl ?_
          refine w_je (pc1 := 54) (vs := [.ref 176, .int (nI (b)), .long (vl B n i)]) (rest := []) (st1 := [.int (nI (q))]) (m_213r (d := _) (sl := 0) hB hq1) rfl rfl rfl (fun _ _ => rfl) rfl (by exact cl_v my_213 rfl rfl rfl (Nat.le_of_ble_eq_true rfl) rfl (MH_obj rfl rfl) rfl (by decide) rfl rfl) (by rfl) (Nat.le_of_ble_eq_true rfl) (Nat.le_of_ble_eq_true rfl) rfl (by rfl) ?_
          refine w_p (pc1 := 56) (al1 := [(6, .int (nI (q))), (5, .int 1), (4, .int (nI (acc.length))), (0, .ref 176), (1, .int (nI (b))), (2, .ref 189), (3, .int (nI (6 * r)))]) rfl rfl ?_
          refine w_p (pc1 := 58) rfl rfl ?_
          refine w_p (pc1 := 59) (st1 := .int (-1) :: _) rfl rfl ?_
          refine w_t (a := 67) (b := 62) (cb_ne_t (by exact nK_m1 (by omega))) rfl rfl ?_
          refine w_p (pc1 := 68) (st1 := .int 0 :: _) rfl rfl ?_
          refine w_p (pc1 := 70) (al1 := [(7, .int 0), (6, .int (nI (q))), (5, .int 1), (4, .int (nI (acc.length))), (0, .ref 176), (1, .int (nI (b))), (2, .ref 189), (3, .int (nI (6 * r)))]) rfl rfl ?_
          refine nD_89 hr ha hl6 ha6 hq6 M (fun k2 => ?_) acc [] rfl hc
          by_cases h48 : kd B n (i + 1) = 48
          · skip
            refine w_p (pc1 := 110) rfl rfl ?_
            refine w_p (pc1 := 111) rfl rfl ?_
            refine w_p (pc1 := 113) rfl rfl ?_
            refine w_iadd (pc1 := 114) (u := nI (6 * r)) (v := nI (acc.length)) (z := nI (6 * r + (acc.length))) rfl (nK_add) rfl ?_
            refine w_p (pc1 := 116) rfl rfl ?_
            refine w_m0 (pc1 := 117) rfl rfl (n_is (e := 6 * r + (acc.length)) rfl rfl rfl (by omega)) rfl ?_
            refine w_iinc (pc1 := 120) (u := nI (acc.length)) (z := nI (acc.length + 1)) (al1 := [(4, .int (nI (acc.length + 1))), (7, .int (nI (k2))), (6, .int (nI (q))), (5, .int 1), (0, .ref 176), (1, .int (nI (b))), (2, .ref 189), (3, .int (nI (6 * r)))]) rfl rfl rfl nK_1 rfl rfl ?_
            refine w_p (pc1 := 121) rfl rfl ?_
            refine w_ji (pc1 := 124) (vs := [.ref 176]) (rest := []) (nS (d := _) M1 (by rw [hk]; decide)) rfl rfl rfl (fun _ _ => rfl) rfl (by exact cl_v my_195 rfl rfl rfl (Nat.le_of_ble_eq_true rfl) rfl (MH_obj rfl rfl) rfl (by decide) rfl rfl) (by rfl) (Nat.le_of_ble_eq_true rfl) (Nat.le_of_ble_eq_true rfl) rfl (fun v h1 d1 hq => ?_) (fun _ _ _ e => e.elim)
            rcases hq with ⟨hv, ⟨C2, ⟨g2, M2, f2⟩, hh⟩, hn⟩ | ⟨hv, ⟨C2, ⟨g2, F2, f2⟩, hh⟩, hn⟩
            · subst hv; subst hh; subst hn
              refine w_p (pc1 := 125) rfl rfl ?_
              refine w_m0 (pc1 := 128) (st1 := .int 0 :: _) rfl rfl (h_gIe (j := 8) rfl rfl rfl rfl rfl (M2.2.1.2.1)) rfl ?_
              refine w_f (a := 144) (b := 131) rfl rfl rfl ?_
              refine w_p (pc1 := 132) rfl rfl ?_
              refine w_p (pc1 := 134) (st1 := .int 44 :: _) rfl rfl ?_
              refine w_je (pc1 := 137) (vs := [.ref 176, .int 44]) (rest := []) (st1 := [.int 1]) (m_210t (d := _) (sl := 0) (c := 44) ((sg_k (k := 48) M2.2.1 (by decide) (by decide)).trans (decide_eq_true h48))) rfl rfl rfl (fun _ _ => rfl) rfl (by exact cl_v my_210 rfl rfl rfl (Nat.le_of_ble_eq_true rfl) rfl (MH_obj rfl rfl) rfl (by decide) rfl rfl) (by rfl) (Nat.le_of_ble_eq_true rfl) (Nat.le_of_ble_eq_true rfl) rfl (by rfl) ?_
              refine w_f (a := 144) (b := 140) rfl rfl rfl ?_
              refine w_p (pc1 := 141) (st1 := .int 1 :: _) rfl rfl ?_
              refine w_p (pc1 := 145) rfl rfl ?_
              refine w_p (pc1 := 147) (al1 := [(5, .int 1), (4, .int (nI (acc.length + 1))), (7, .int (nI (k2))), (6, .int (nI (q))), (0, .ref 176), (1, .int (nI (b))), (2, .ref 189), (3, .int (nI (6 * r)))]) rfl rfl ?_
              refine w_p (pc1 := 149) rfl rfl ?_
              refine w_f (a := 156) (b := 152) rfl rfl rfl ?_
              refine w_p (pc1 := 153) rfl rfl ?_
              refine w_ji (pc1 := 156) (vs := [.ref 176]) (rest := []) (nS (d := _) M2 (by rw [h48]; decide)) rfl rfl rfl (fun _ _ => rfl) rfl (by exact cl_v my_195 rfl rfl rfl (Nat.le_of_ble_eq_true rfl) rfl (MH_obj rfl rfl) rfl (by decide) rfl rfl) (by rfl) (Nat.le_of_ble_eq_true rfl) (Nat.le_of_ble_eq_true rfl) rfl (fun v h1 d1 hq => ?_) (fun _ _ _ e => e.elim)
              rcases hq with ⟨hv, ⟨C3, ⟨g3, M3, f3⟩, hh⟩, hn⟩ | ⟨hv, ⟨C3, ⟨g3, F3, f3⟩, hh⟩, hn⟩
              · subst hv; subst hh; subst hn
                refine w_p (pc1 := 23) rfl rfl ?_
                refine Wd_al (al := [(5, .int 1), (4, .int (nI (acc.length + 1))), (0, .ref 176), (1, .int (nI (b))), (2, .ref 189), (3, .int (nI (6 * r)))]) (sba_p [0, 1, 4, 5, 6, 7] rfl rfl) ?_
                have e3 : (acc ++ [q]).length = acc.length + 1 := by rw [List.length_append, List.length_singleton]
                show Wd L xs _ _ _ (PNM B n U V C0 C t 89 r nl (if kd B n (i + 1) = 48 then _ else _)) _
                rw [if_pos h48, ← e3]
                exact Wd_q (lp_216_89 hU hr f (i + 1 + 1) C3 (acc ++ [q]) M3 (TBM_o (TBM_o hB (fun j => by rw [f2.1 80 j (by omega), sI_1, if_neg (by omega)]) (fun j => f2.2.1 81 j (by omega))) (fun j => f3.1 80 j (by omega)) (fun j => f3.2.1 81 j (by omega))) (arI_o a1 (by rw [e3]; omega) (fun j _ _ => by rw [f3.1 89 j (by omega), f2.1 89 j (by omega)])) hw2 hn2 (nam_z hz hy h48)) (PNM_f (fN_t f1 (fN_t (fN_T f2) (fN_T f3)))) (fun _ _ _ e => e)
              · subst hv; subst hh; subst hn
                refine w_p (pc1 := 23) rfl rfl ?_
                refine Wd_al (al := [(5, .int 1), (4, .int (nI (acc.length + 1))), (0, .ref 176), (1, .int (nI (b))), (2, .ref 189), (3, .int (nI (6 * r)))]) (sba_p [0, 1, 4, 5, 6, 7] rfl rfl) ?_
                refine nX_89 F3 (fun a => Or.inr ⟨a, rfl, ⟨_, ⟨1, i + 1 + 1, ?_, F3⟩, rfl⟩, rfl⟩)
                show flS B n _ (if kd B n (i + 1) = 48 then _ else _) 1 (i + 1 + 1)
                rw [if_pos h48]
                exact flS_1 (bdS_b (bd_nam g3 (nam_z hz hy h48))) g3
            · subst hv; subst hh; subst hn
              refine w_p (pc1 := 125) rfl rfl ?_
              refine w_m0 (pc1 := 128) rfl rfl (h_gI (j := 8) rfl rfl rfl rfl rfl) rfl ?_
              refine w_t (a := 144) (b := 131) (cb_ne_t (by exact FS_0 F2)) rfl rfl ?_
              refine w_p (pc1 := 145) (st1 := .int 0 :: _) rfl rfl ?_
              refine w_p (pc1 := 147) (al1 := [(5, .int 0), (4, .int (nI (acc.length + 1))), (7, .int (nI (k2))), (6, .int (nI (q))), (0, .ref 176), (1, .int (nI (b))), (2, .ref 189), (3, .int (nI (6 * r)))]) rfl rfl ?_
              refine w_p (pc1 := 149) rfl rfl ?_
              refine w_t (a := 156) (b := 152) rfl rfl rfl ?_
              refine w_p (pc1 := 23) rfl rfl ?_
              refine Wd_al (al := [(5, .int 0), (4, .int (nI (acc.length + 1))), (0, .ref 176), (1, .int (nI (b))), (2, .ref 189), (3, .int (nI (6 * r)))]) (sba_p [0, 1, 4, 5, 6, 7] rfl rfl) ?_
              refine nX_89 F2 (fun a => Or.inr ⟨a, rfl, ⟨_, ⟨1, i + 1, ?_, F2⟩, rfl⟩, rfl⟩)
              show flS B n _ (if kd B n (i + 1) = 48 then _ else _) 1 (i + 1)
              rw [if_neg (by rw [g2]; decide)]
              exact flS_e rfl rfl g2
          · skip
            refine w_p (pc1 := 110) rfl rfl ?_
            refine w_p (pc1 := 111) rfl rfl ?_
            refine w_p (pc1 := 113) rfl rfl ?_
            refine w_iadd (pc1 := 114) (u := nI (6 * r)) (v := nI (acc.length)) (z := nI (6 * r + (acc.length))) rfl (nK_add) rfl ?_
            refine w_p (pc1 := 116) rfl rfl ?_
            refine w_m0 (pc1 := 117) rfl rfl (n_is (e := 6 * r + (acc.length)) rfl rfl rfl (by omega)) rfl ?_
            refine w_iinc (pc1 := 120) (u := nI (acc.length)) (z := nI (acc.length + 1)) (al1 := [(4, .int (nI (acc.length + 1))), (7, .int (nI (k2))), (6, .int (nI (q))), (5, .int 1), (0, .ref 176), (1, .int (nI (b))), (2, .ref 189), (3, .int (nI (6 * r)))]) rfl rfl rfl nK_1 rfl rfl ?_
            refine w_p (pc1 := 121) rfl rfl ?_
            refine w_ji (pc1 := 124) (vs := [.ref 176]) (rest := []) (nS (d := _) M1 (by rw [hk]; decide)) rfl rfl rfl (fun _ _ => rfl) rfl (by exact cl_v my_195 rfl rfl rfl (Nat.le_of_ble_eq_true rfl) rfl (MH_obj rfl rfl) rfl (by decide) rfl rfl) (by rfl) (Nat.le_of_ble_eq_true rfl) (Nat.le_of_ble_eq_true rfl) rfl (fun v h1 d1 hq => ?_) (fun _ _ _ e => e.elim)
            rcases hq with ⟨hv, ⟨C2, ⟨g2, M2, f2⟩, hh⟩, hn⟩ | ⟨hv, ⟨C2, ⟨g2, F2, f2⟩, hh⟩, hn⟩
            · subst hv; subst hh; subst hn
              refine w_p (pc1 := 125) rfl rfl ?_
              refine w_m0 (pc1 := 128) (st1 := .int 0 :: _) rfl rfl (h_gIe (j := 8) rfl rfl rfl rfl rfl (M2.2.1.2.1)) rfl ?_
              refine w_f (a := 144) (b := 131) rfl rfl rfl ?_
              refine w_p (pc1 := 132) rfl rfl ?_
              refine w_p (pc1 := 134) (st1 := .int 44 :: _) rfl rfl ?_
              refine w_je (pc1 := 137) (vs := [.ref 176, .int 44]) (rest := []) (st1 := [.int 0]) (m_210f (d := _) (sl := 0) (c := 44) ((sg_k (k := 48) M2.2.1 (by decide) (by decide)).trans (decide_eq_false h48))) rfl rfl rfl (fun _ _ => rfl) rfl (by exact cl_v my_210 rfl rfl rfl (Nat.le_of_ble_eq_true rfl) rfl (MH_obj rfl rfl) rfl (by decide) rfl rfl) (by rfl) (Nat.le_of_ble_eq_true rfl) (Nat.le_of_ble_eq_true rfl) rfl (by rfl) ?_
              refine w_t (a := 144) (b := 140) rfl rfl rfl ?_
              refine w_p (pc1 := 145) (st1 := .int 0 :: _) rfl rfl ?_
              refine w_p (pc1 := 147) (al1 := [(5, .int 0), (4, .int (nI (acc.length + 1))), (7, .int (nI (k2))), (6, .int (nI (q))), (0, .ref 176), (1, .int (nI (b))), (2, .ref 189), (3, .int (nI (6 * r)))]) rfl rfl ?_
              refine w_p (pc1 := 149) rfl rfl ?_
              refine w_t (a := 156) (b := 152) rfl rfl rfl ?_
              refine w_p (pc1 := 23) rfl rfl ?_
              refine w_p (pc1 := 25) rfl rfl ?_
              refine w_t (a := 159) (b := 28) rfl rfl rfl ?_
              refine w_p (pc1 := 161) rfl rfl ?_
              refine w_r rfl rfl rfl (fun _ _ => rfl) cr_int ?_
              refine Or.inl ⟨acc ++ [q], i + 1, ?_, ⟨_, ⟨?_, g2, M2, arI_o a1 (by rw [List.length_append, List.length_singleton]; omega) (fun j _ _ => f2.1 89 j (by omega)), fN_t f1 (fN_T f2)⟩, rfl⟩, rfl⟩
              · rw [List.length_append, List.length_singleton]
              · show (if kd B n (i + 1) = 48 then _ else _) = _
                rw [if_neg h48]
            · subst hv; subst hh; subst hn
              refine w_p (pc1 := 125) rfl rfl ?_
              refine w_m0 (pc1 := 128) rfl rfl (h_gI (j := 8) rfl rfl rfl rfl rfl) rfl ?_
              refine w_t (a := 144) (b := 131) (cb_ne_t (by exact FS_0 F2)) rfl rfl ?_
              refine w_p (pc1 := 145) (st1 := .int 0 :: _) rfl rfl ?_
              refine w_p (pc1 := 147) (al1 := [(5, .int 0), (4, .int (nI (acc.length + 1))), (7, .int (nI (k2))), (6, .int (nI (q))), (0, .ref 176), (1, .int (nI (b))), (2, .ref 189), (3, .int (nI (6 * r)))]) rfl rfl ?_
              refine w_p (pc1 := 149) rfl rfl ?_
              refine w_t (a := 156) (b := 152) rfl rfl rfl ?_
              refine w_p (pc1 := 23) rfl rfl ?_
              refine Wd_al (al := [(5, .int 0), (4, .int (nI (acc.length + 1))), (0, .ref 176), (1, .int (nI (b))), (2, .ref 189), (3, .int (nI (6 * r)))]) (sba_p [0, 1, 4, 5, 6, 7] rfl rfl) ?_
              refine nX_89 F2 (fun a => Or.inr ⟨a, rfl, ⟨_, ⟨1, i + 1, ?_, F2⟩, rfl⟩, rfl⟩)
              show flS B n _ (if kd B n (i + 1) = 48 then _ else _) 1 (i + 1)
              rw [if_neg (by rw [g2]; decide)]
              exact flS_e rfl rfl g2
    · have F := FS_new (c := 2) M (by decide)
      have hy : rCol (tkP B n) sc b acc i = .inl (2, i) := rCol_2 hk
      refine w_p (pc1 := 25) rfl rfl ?_
      refine w_f (a := 159) (b := 28) rfl rfl rfl ?_
      refine w_p (pc1 := 29) rfl rfl ?_
      refine w_m0 (pc1 := 32) (st1 := .int 0 :: _) rfl rfl (h_gIe (j := 8) rfl rfl rfl rfl rfl (M.2.1.2.1)) rfl ?_
      refine w_f (a := 159) (b := 35) rfl rfl rfl ?_
      refine w_p (pc1 := 36) rfl rfl ?_
      refine w_je (pc1 := 39) (vs := [.ref 176]) (rest := []) (st1 := [.int 0]) (m_207n (d := _) M hk) rfl rfl rfl (fun _ _ => rfl) rfl (by exact cl_v my_207 rfl rfl rfl (Nat.le_of_ble_eq_true rfl) rfl (MH_obj rfl rfl) rfl (by decide) rfl rfl) (by rfl) (Nat.le_of_ble_eq_true rfl) (Nat.le_of_ble_eq_true rfl) rfl (by rfl) ?_
      refine w_f (a := 45) (b := 42) rfl rfl rfl ?_
      refine w_p (pc1 := 44) rfl rfl ?_
      refine w_r rfl rfl rfl (fun _ _ => rfl) cr_int ?_
      exact Or.inr ⟨acc.length, rfl, ⟨_, ⟨2, i, flS_n (pb_l hy) hk1, F⟩, rfl⟩, rfl⟩
set_option maxRecDepth 100000 in
theorem m_216_89 (hU : U r) (hr : r < 24) (M : MS B n U V C0 C i nl) (hB : TBM C sc b) : Wd L xs (d + 5) y_216 (0, [(0, .ref 176), (1, .int (nI b)), (2, .ref 189), (3, .int (nI (6 * r)))], [], MH C t, 0) (PNM B n U V C0 C t 89 r nl (pb (xpP (tkP B n) 44 i) (fun j => rNam (tkP B n) sc b 7 [] j))) nX := by
  refine w_p (pc1 := 1) rfl rfl ?_
  refine w_p (pc1 := 3) (st1 := .int 40 :: _) rfl rfl ?_
  refine w_ji (pc1 := 6) (vs := [.ref 176, .int 40]) (rest := []) (m_209 (k := 44) (d := _) (by decide) (by decide) rfl M) rfl rfl rfl (fun _ _ => rfl) rfl (by exact cl_v my_209 rfl rfl rfl (Nat.le_of_ble_eq_true rfl) rfl (MH_obj rfl rfl) rfl (by decide) rfl rfl) (by rfl) (Nat.le_of_ble_eq_true rfl) (Nat.le_of_ble_eq_true rfl) rfl (fun v h1 d1 hq => ?_) (fun _ _ _ e => e.elim)
  rcases hq with ⟨hv, ⟨C1, ⟨g1, g2, M1, f1⟩, hh⟩, hn⟩ | ⟨hv, ⟨C1, ⟨c1, j1, g1, F1, f1⟩, hh⟩, hn⟩
  · subst hv; subst hh; subst hn
    refine w_p (pc1 := 7) (st1 := .int 0 :: _) rfl rfl ?_
    refine w_p (pc1 := 9) (al1 := [(4, .int 0), (0, .ref 176), (1, .int (nI (b))), (2, .ref 189), (3, .int (nI (6 * r)))]) rfl rfl ?_
    refine w_p (pc1 := 10) rfl rfl ?_
    refine w_m0 (pc1 := 13) rfl rfl (h_gI (j := 8) rfl rfl rfl rfl rfl) rfl ?_
    refine w_f (a := 20) (b := 16) (cb_ne_f (by exact M1.2.1.2.1)) rfl rfl ?_
    refine w_p (pc1 := 17) (st1 := .int 1 :: _) rfl rfl ?_
    refine w_p (pc1 := 21) rfl rfl ?_
    refine w_p (pc1 := 23) (al1 := [(5, .int 1), (4, .int 0), (0, .ref 176), (1, .int (nI (b))), (2, .ref 189), (3, .int (nI (6 * r)))]) rfl rfl ?_
    rw [pb_r (show xpP (tkP B n) 44 i = .inr (i + 1) from if_pos g1), ← nam_0 (r := rNam (tkP B n) sc b 7 [] (i + 1))]
    exact Wd_q (lp_216_89 hU hr 7 (i + 1) C1 [] M1 (TBM_o hB (fun j => f1.1 80 j (by omega)) (fun j => f1.2.1 81 j (by omega))) (fun j x hx => by cases hx) (fun x hx => by cases hx) List.nodup_nil (rNam_0 hB.2.2.1)) (PNM_f (fN_T f1)) (fun _ _ _ e => e)
  · subst hv; subst hh; subst hn
    refine w_p (pc1 := 7) (st1 := .int 0 :: _) rfl rfl ?_
    refine w_p (pc1 := 9) (al1 := [(4, .int 0), (0, .ref 176), (1, .int (nI (b))), (2, .ref 189), (3, .int (nI (6 * r)))]) rfl rfl ?_
    refine w_p (pc1 := 10) rfl rfl ?_
    refine w_m0 (pc1 := 13) rfl rfl (h_gI (j := 8) rfl rfl rfl rfl rfl) rfl ?_
    refine w_t (a := 20) (b := 16) (cb_ne_t (by exact FS_0 F1)) rfl rfl ?_
    refine w_p (pc1 := 21) (st1 := .int 0 :: _) rfl rfl ?_
    refine w_p (pc1 := 23) (al1 := [(5, .int 0), (4, .int 0), (0, .ref 176), (1, .int (nI (b))), (2, .ref 189), (3, .int (nI (6 * r)))]) rfl rfl ?_
    refine nX_89 F1 (fun a => Or.inr ⟨a, rfl, ⟨_, ⟨c1, j1, flS_b g1 (fun q hq hk => ?_), F1⟩, rfl⟩, rfl⟩)
    exact bd_nam hk (rNam_0 hB.2.2.1)
set_option maxRecDepth 100000 in
theorem m_216_89f (F : FS B n U V C0 C c i) : Wd L xs (d + 1) y_216 (0, [(0, .ref 176), (1, .int (nI b)), (2, .ref 189), (3, .int (nI (6 * r)))], [], MH C t, 0) (fun v h m => ∃ a, some (.int (nI a)) = v ∧ MH C t = h ∧ 0 = m) nX := by
  have h0 := FS_0 F
  refine w_p (pc1 := 1) rfl rfl ?_
  refine w_p (pc1 := 3) (st1 := .int 40 :: _) rfl rfl ?_
  refine w_je (pc1 := 6) (vs := [.ref 176, .int 40]) (rest := []) (st1 := []) (m_209f (d := _) F) rfl rfl rfl (fun _ _ => rfl) rfl (by exact cl_v my_209 rfl rfl rfl (Nat.le_of_ble_eq_true rfl) rfl (MH_obj rfl rfl) rfl (by decide) rfl rfl) (by rfl) (Nat.le_of_ble_eq_true rfl) (Nat.le_of_ble_eq_true rfl) rfl (by rfl) ?_
  refine w_p (pc1 := 7) (st1 := .int 0 :: _) rfl rfl ?_
  refine w_p (pc1 := 9) (al1 := [(4, .int 0), (0, .ref 176), (1, .int (nI (b))), (2, .ref 189), (3, .int (nI (6 * r)))]) rfl rfl ?_
  refine w_p (pc1 := 10) rfl rfl ?_
  refine w_m0 (pc1 := 13) rfl rfl (h_gI (j := 8) rfl rfl rfl rfl rfl) rfl ?_
  refine w_t (a := 20) (b := 16) (cb_ne_t (by exact h0)) rfl rfl ?_
  refine w_p (pc1 := 21) (st1 := .int 0 :: _) rfl rfl ?_
  refine w_p (pc1 := 23) (al1 := [(5, .int 0), (4, .int 0), (0, .ref 176), (1, .int (nI (b))), (2, .ref 189), (3, .int (nI (6 * r)))]) rfl rfl ?_
  exact nX_89 F (fun a => ⟨a, rfl, rfl, rfl⟩)
end MTD
