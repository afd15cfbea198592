
/-! ONE SIDE'S ENGINE: rules that follow -/
section KE6
variable {L : Nat} {xs : Nat → Int32} {C : co_T} {t : ab_H} {d sl D w2 w3 k k0 kc kt b c i n : Nat} {S : st_T} {N O : rw_F} {u : ru_T} {fc ft : Nat → Int32} {vw : Value} {σ : es_T} {i0 : Int32}
def rids (u : ru_T) (O : rw_F) (l : List ro_T) : List Int32 := (l.filter (rfg u O)).map (fun r => r.1)
set_option maxRecDepth 100000 in
theorem rids_t {r : ro_T} {l : List ro_T} (h : rfg u O r = true) : rids u O (r :: l) = r.1 :: rids u O l := by unfold rids; rw [List.filter_cons_of_pos h]; rfl
set_option maxRecDepth 100000 in
theorem rids_f {r : ro_T} {l : List ro_T} (h : rfg u O r = false) : rids u O (r :: l) = rids u O l := by unfold rids; rw [List.filter_cons_of_neg (by rw [h]; decide)]
set_option maxRecDepth 100000 in
theorem lp_138a {P : Option Value → ab_H → Nat → Prop} {X : Nat → ab_H → Nat → Prop} {C0 : co_T} {act ev : Nat} (ho : okSt S) (hD : D < 13) (ha : act ≠ 0) (ha4 : act ≤ 4) (hR : okR (sWd S) u) (hK : rKd u = 4) (hb1 : rTg u = some b) (hb6 : b < 6) (U : RUo t k0 kc kt u fc ft vw) : ∀ (suf pre : List ro_T) (is : List Int32) (C : co_T), pre ++ suf = (σ.1 (rTb u)).1 → KB C t S σ D w2 (sWd S b) N O → is.length ≤ pre.length → (∀ j x, is[j]? = some x → C.1 (61 + D) j = x) → frI (61 + D) C0 C →
    (∀ C1, (∀ j x, (is ++ rids u O suf)[j]? = some x → C1.1 (61 + D) j = x) → frI (61 + D) C0 C1 → (is ++ rids u O suf).length ≤ 40 → Wd L xs (d + 4) y_138 (85, [(7, .int (nI ((is ++ rids u O suf).length))), (0, .ref 124), (1, .int (nI (i))), (2, .ref (241 + k0)), (3, .int (nI (act))), (4, .int (nI (ev))), (5, .int (i0)), (6, .int (nI (D)))], [], MH C1 t, sl) P X) →
    Wd L xs (d + 4) y_138 (6, [(8, .int (nI (pre.length))), (7, .int (nI (is.length))), (0, .ref 124), (1, .int (nI (i))), (2, .ref (241 + k0)), (3, .int (nI (act))), (4, .int (nI (ev))), (5, .int (i0)), (6, .int (nI (D)))], [], MH C t, sl) P X
  | [], pre, is, C, hp, B, hil, hid, hf, H => by
    rw [List.append_nil] at hp
    have hl2 := congrArg List.length hp
    have h40 := (B.2.1.1 _ hR.1.2.1).2.2.1
    have hw6 := ho.1 b hb6
    have hsz := sizeK (L := L) (xs := xs) (t := t) (d := d + 3) (sl := 0) B.2.1.1 hR.1.2.1
    have e0 : is ++ rids u O [] = is := List.append_nil is
    rw [e0] at H
    refine w_p (pc1 := 8) rfl rfl ?_
    refine w_p (pc1 := 9) rfl rfl ?_
    refine w_m0 (pc1 := 12) rfl rfl (h_gC rfl rfl rfl rfl) rfl ?_
    refine w_p (pc1 := 13) rfl rfl ?_
    refine w_m0 (pc1 := 16) (st1 := .int (nI (rTb u)) :: _) rfl rfl (x_gf (k := k0) rfl U.1 rfl) rfl ?_
    refine w_je (pc1 := 19) (vs := [.ref 113, .int (nI (rTb u))]) (rest := [.int (nI (pre.length))]) (st1 := [.int (nI ((σ.1 (rTb u)).1.length)), .int (nI (pre.length))]) (hsz) rfl rfl rfl (fun _ _ => rfl) rfl (by exact cl_v my_107 rfl rfl rfl (Nat.le_of_ble_eq_true rfl) rfl (MH_obj rfl rfl) rfl (by decide) rfl rfl) (by rfl) (Nat.le_of_ble_eq_true rfl) (Nat.le_of_ble_eq_true rfl) rfl (by rfl) ?_
    refine w_t (a := 85) (b := 22) (bN_ge_t (a := pre.length) (b := (σ.1 (rTb u)).1.length) (by omega) (by omega) (by omega)) rfl rfl ?_
    refine Wd_al (al := [(7, .int (nI (is.length))), (0, .ref 124), (1, .int (nI (i))), (2, .ref (241 + k0)), (3, .int (nI (act))), (4, .int (nI (ev))), (5, .int (i0)), (6, .int (nI (D)))]) (sba_p [1, 2, 3, 4, 5, 6, 7, 8] rfl rfl) ?_
    exact H C hid hf (by omega)
  | r :: suf, pre, is, C, hp, B, hil, hid, hf, H => by
    obtain ⟨h1, h2, h3⟩ := get_ap hp
    have h40 := (B.2.1.1 _ hR.1.2.1).2.2.1
    have hw6 := ho.1 b hb6
    have hsz := sizeK (L := L) (xs := xs) (t := t) (d := d + 3) (sl := 0) B.2.1.1 hR.1.2.1
    have hrf := m_139 (L := L) (xs := xs) (d := d + 1) (sl := 0) (kr := 31 + D) (l := []) (O := O) (skO (by omega)) B.2.1.1 U hR hK hb1 hw6 B.2.2.2.2 h1
    cases hx : rfg u O r with
    | false =>
      rw [hx] at hrf
      rw [rids_f hx] at H
      refine w_p (pc1 := 8) rfl rfl ?_
      refine w_p (pc1 := 9) rfl rfl ?_
      refine w_m0 (pc1 := 12) rfl rfl (h_gC rfl rfl rfl rfl) rfl ?_
      refine w_p (pc1 := 13) rfl rfl ?_
      refine w_m0 (pc1 := 16) (st1 := .int (nI (rTb u)) :: _) rfl rfl (x_gf (k := k0) rfl U.1 rfl) rfl ?_
      refine w_je (pc1 := 19) (vs := [.ref 113, .int (nI (rTb u))]) (rest := [.int (nI (pre.length))]) (st1 := [.int (nI ((σ.1 (rTb u)).1.length)), .int (nI (pre.length))]) (hsz) rfl rfl rfl (fun _ _ => rfl) rfl (by exact cl_v my_107 rfl rfl rfl (Nat.le_of_ble_eq_true rfl) rfl (MH_obj rfl rfl) rfl (by decide) rfl rfl) (by rfl) (Nat.le_of_ble_eq_true rfl) (Nat.le_of_ble_eq_true rfl) rfl (by rfl) ?_
      refine w_f (a := 85) (b := 22) (bN_ge_f (a := pre.length) (b := (σ.1 (rTb u)).1.length) (by omega) (by omega) (by omega)) rfl rfl ?_
      refine w_p (pc1 := 24) rfl rfl ?_
      refine w_p (pc1 := 26) (st1 := .int 40 :: _) rfl rfl ?_
      refine w_f (a := 85) (b := 29) (bN_ge_f (a := is.length) (b := 40) (by omega) (by omega) (by omega)) rfl rfl ?_
      refine w_p (pc1 := 30) rfl rfl ?_
      refine w_f (a := 79) (b := 33) (bN_eq_f (a := act) (b := 0) (by omega) (by omega) (by omega)) rfl rfl ?_
      refine w_p (pc1 := 34) rfl rfl ?_
      refine w_p (pc1 := 35) rfl rfl ?_
      refine w_m0 (pc1 := 38) rfl rfl (h_gC rfl rfl rfl rfl) rfl ?_
      refine w_p (pc1 := 40) rfl rfl ?_
      refine w_p (pc1 := 41) rfl rfl ?_
      refine w_m0 (pc1 := 44) rfl rfl (h_gC rfl rfl rfl rfl) rfl ?_
      refine w_p (pc1 := 46) rfl rfl ?_
      refine w_m0 (pc1 := 47) (st1 := .ref (31 + D + 100) :: _) rfl rfl (n_als (e := D) rfl rfl (by decide) rfl (by omega) (KS_ol B.1 (by omega))) rfl ?_
      refine w_je (pc1 := 50) (vs := [.ref (241 + k0), .ref 113, .int (nI (pre.length)), .ref (31 + D + 100)]) (rest := []) (st1 := [.int 0]) (hrf) rfl rfl rfl (fun _ _ => rfl) rfl (by exact cl_v my_139 rfl rfl rfl (Nat.le_of_ble_eq_true rfl) rfl (x_obj U.1) rfl (by decide) rfl rfl) (by rfl) (Nat.le_of_ble_eq_true rfl) (Nat.le_of_ble_eq_true rfl) rfl (by rfl) ?_
      refine w_t (a := 79) (b := 53) rfl rfl rfl ?_
      refine w_iinc (pc1 := 82) (u := nI (pre.length)) (z := nI (pre.length + 1)) (al1 := [(8, .int (nI (pre.length + 1))), (7, .int (nI (is.length))), (0, .ref 124), (1, .int (nI (i))), (2, .ref (241 + k0)), (3, .int (nI (act))), (4, .int (nI (ev))), (5, .int (i0)), (6, .int (nI (D)))]) rfl rfl rfl nK_1 rfl rfl ?_
      refine w_p (pc1 := 6) rfl rfl ?_
      have ih := lp_138a (P := P) (X := X) ho hD ha ha4 hR hK hb1 hb6 U suf (pre ++ [r]) is C h3 B (by rw [len_s]; omega) hid hf H
      rw [len_s] at ih
      exact ih
    | true =>
      rw [hx] at hrf
      rw [rids_t hx] at H
      have fI : frI (61 + D) C (sI C (61 + D) is.length r.1) := frI_I
      refine w_p (pc1 := 8) rfl rfl ?_
      refine w_p (pc1 := 9) rfl rfl ?_
      refine w_m0 (pc1 := 12) rfl rfl (h_gC rfl rfl rfl rfl) rfl ?_
      refine w_p (pc1 := 13) rfl rfl ?_
      refine w_m0 (pc1 := 16) (st1 := .int (nI (rTb u)) :: _) rfl rfl (x_gf (k := k0) rfl U.1 rfl) rfl ?_
      refine w_je (pc1 := 19) (vs := [.ref 113, .int (nI (rTb u))]) (rest := [.int (nI (pre.length))]) (st1 := [.int (nI ((σ.1 (rTb u)).1.length)), .int (nI (pre.length))]) (hsz) rfl rfl rfl (fun _ _ => rfl) rfl (by exact cl_v my_107 rfl rfl rfl (Nat.le_of_ble_eq_true rfl) rfl (MH_obj rfl rfl) rfl (by decide) rfl rfl) (by rfl) (Nat.le_of_ble_eq_true rfl) (Nat.le_of_ble_eq_true rfl) rfl (by rfl) ?_
      refine w_f (a := 85) (b := 22) (bN_ge_f (a := pre.length) (b := (σ.1 (rTb u)).1.length) (by omega) (by omega) (by omega)) rfl rfl ?_
      refine w_p (pc1 := 24) rfl rfl ?_
      refine w_p (pc1 := 26) (st1 := .int 40 :: _) rfl rfl ?_
      refine w_f (a := 85) (b := 29) (bN_ge_f (a := is.length) (b := 40) (by omega) (by omega) (by omega)) rfl rfl ?_
      refine w_p (pc1 := 30) rfl rfl ?_
      refine w_f (a := 79) (b := 33) (bN_eq_f (a := act) (b := 0) (by omega) (by omega) (by omega)) rfl rfl ?_
      refine w_p (pc1 := 34) rfl rfl ?_
      refine w_p (pc1 := 35) rfl rfl ?_
      refine w_m0 (pc1 := 38) rfl rfl (h_gC rfl rfl rfl rfl) rfl ?_
      refine w_p (pc1 := 40) rfl rfl ?_
      refine w_p (pc1 := 41) rfl rfl ?_
      refine w_m0 (pc1 := 44) rfl rfl (h_gC rfl rfl rfl rfl) rfl ?_
      refine w_p (pc1 := 46) rfl rfl ?_
      refine w_m0 (pc1 := 47) (st1 := .ref (31 + D + 100) :: _) rfl rfl (n_als (e := D) rfl rfl (by decide) rfl (by omega) (KS_ol B.1 (by omega))) rfl ?_
      refine w_je (pc1 := 50) (vs := [.ref (241 + k0), .ref 113, .int (nI (pre.length)), .ref (31 + D + 100)]) (rest := []) (st1 := [.int 1]) (hrf) rfl rfl rfl (fun _ _ => rfl) rfl (by exact cl_v my_139 rfl rfl rfl (Nat.le_of_ble_eq_true rfl) rfl (x_obj U.1) rfl (by decide) rfl rfl) (by rfl) (Nat.le_of_ble_eq_true rfl) (Nat.le_of_ble_eq_true rfl) rfl (by rfl) ?_
      refine w_f (a := 79) (b := 53) rfl rfl rfl ?_
      refine w_p (pc1 := 54) rfl rfl ?_
      refine w_m0 (pc1 := 57) rfl rfl (h_gC rfl rfl rfl rfl) rfl ?_
      refine w_p (pc1 := 59) rfl rfl ?_
      refine w_m0 (pc1 := 60) (st1 := .ref (61 + D + 100) :: _) rfl rfl (n_als (e := D) rfl rfl (by decide) rfl (by omega) (KS_fo B.1 (by omega))) rfl ?_
      refine w_p (pc1 := 62) rfl rfl ?_
      refine w_p (pc1 := 63) rfl rfl ?_
      refine w_m0 (pc1 := 66) rfl rfl (h_gC rfl rfl rfl rfl) rfl ?_
      refine w_p (pc1 := 67) rfl rfl ?_
      refine w_m0 (pc1 := 70) (st1 := .int (nI (rTb u)) :: _) rfl rfl (x_gf (k := k0) rfl U.1 rfl) rfl ?_
      refine w_p (pc1 := 72) rfl rfl ?_
      refine w_je (pc1 := 75) (vs := [.ref 113, .int (nI (rTb u)), .int (nI (pre.length))]) (rest := [.int (nI (is.length)), .ref (61 + D + 100)]) (st1 := [.int (r.1), .int (nI (is.length)), .ref (61 + D + 100)]) (idK (d := d + 2) (sl := 0) B.2.1.1 hR.1.2.1 h1) rfl rfl rfl (fun _ _ => rfl) rfl (by exact cl_v my_131 rfl rfl rfl (Nat.le_of_ble_eq_true rfl) rfl (MH_obj rfl rfl) rfl (by decide) rfl rfl) (by rfl) (Nat.le_of_ble_eq_true rfl) (Nat.le_of_ble_eq_true rfl) rfl (by rfl) ?_
      refine w_m0 (pc1 := 76) rfl rfl (n_is (k := 61 + D) (e := is.length) rfl (skI (by omega)) rfl (by omega)) rfl ?_
      refine w_iinc (pc1 := 79) (u := nI (is.length)) (z := nI (is.length + 1)) (al1 := [(7, .int (nI (is.length + 1))), (8, .int (nI (pre.length))), (0, .ref 124), (1, .int (nI (i))), (2, .ref (241 + k0)), (3, .int (nI (act))), (4, .int (nI (ev))), (5, .int (i0)), (6, .int (nI (D)))]) rfl rfl rfl nK_1 rfl rfl ?_
      refine w_iinc (pc1 := 82) (u := nI (pre.length)) (z := nI (pre.length + 1)) (al1 := [(8, .int (nI (pre.length + 1))), (7, .int (nI (is.length + 1))), (0, .ref 124), (1, .int (nI (i))), (2, .ref (241 + k0)), (3, .int (nI (act))), (4, .int (nI (ev))), (5, .int (i0)), (6, .int (nI (D)))]) rfl rfl rfl nK_1 rfl rfl ?_
      refine w_p (pc1 := 6) rfl rfl ?_
      have ih := lp_138a (P := P) (X := X) (act := act) (ev := ev) ho hD ha ha4 hR hK hb1 hb6 U suf (pre ++ [r]) (is ++ [r.1]) (sI C (61 + D) is.length r.1) h3 (KB_n B (by omega) (frI_E fI (by omega)) stk_r (KE_I fI (by omega) B.2.1)) (by rw [len_s, len_s]; omega) (fun j x hj => ?_) (frI_t hf fI) (fun C1 q1 q2 q3 => ?_)
      · rw [len_s, len_s] at ih
        exact ih
      · rw [sI_1]
        by_cases e : j < is.length
        · rw [List.getElem?_append_left e] at hj
          rw [if_neg (by omega)]
          exact hid j x hj
        · have hjl := get_lt hj
          rw [len_s] at hjl
          obtain rfl : j = is.length := by omega
          rw [List.getElem?_append_right (Nat.le_refl _), Nat.sub_self] at hj
          cases hj
          rw [if_pos ⟨rfl, rfl⟩]
      · rw [List.append_cons] at H
        exact H C1 q1 q2 q3
set_option maxRecDepth 100000 in
theorem lp_138b_1_2 {C0 : co_T} {t0 : ab_H} {is : List Int32} (ho : okSt S) (hS : STP L xs S n (D + 1)) (hD : D < 13) (hR : okR (sWd S) u) (hK : rKd u = 4) (hb1 : rTg u = some b) (hb6 : b < 6) (hi4 : is.length ≤ 40) : ∀ (suf pre : List Int32) (C : co_T) (t : ab_H) (σ : es_T), pre ++ suf = is → KB C t S σ D w2 (sWd S b) N O → RUK t k0 u → (∀ j x, is[j]? = some x → C.1 (61 + D) j = x) → frE D (D + 1) C0 C → stk t0 t → Wd L xs (4 * n + 12 + 1) y_138 (88, [(8, .int (nI (pre.length))), (7, .int (nI (is.length))), (0, .ref 124), (1, .int (nI (i))), (2, .ref (241 + k0)), (3, .int 1), (4, .int 2), (5, .int (i0)), (6, .int (nI (D)))], [], MH C t, sl) (PR C0 t0 (sWd S) D (D + 1) sl (lop (rf1 S (stp S n) i u 1 2 i0 O N) suf σ)) (XR C0 t0 D (D + 1) sl (lop (rf1 S (stp S n) i u 1 2 i0 O N) suf σ))
  | [], pre, C, t, σ, hp, B, U0, hid, hf, hst => by
    rw [List.append_nil] at hp
    have hl2 := congrArg List.length hp
    obtain ⟨kc, kt, fc, ft, vw, U, hck⟩ := id U0
    refine w_p (pc1 := 90) rfl rfl ?_
    refine w_p (pc1 := 92) rfl rfl ?_
    refine w_t (a := 269) (b := 95) (bN_ge_t (a := pre.length) (b := is.length) (by omega) (by omega) (by omega)) rfl rfl ?_
    refine w_r rfl rfl rfl (fun _ _ => rfl) rfl ?_
    exact ⟨rfl, rfl, ⟨C, t, ⟨B.2.1, hf, hst⟩, rfl⟩, rfl⟩
  | x :: suf, pre, C, t, σ, hp, B, U0, hid, hf, hst => by
    obtain ⟨h1, h2, h3⟩ := get_ap hp
    obtain ⟨kc, kt, fc, ft, vw, U, hck⟩ := id U0
    have h40 := (B.2.1.1 _ hR.1.2.1).2.2.1
    have hw6 := ho.1 b hb6
    have hx := hid _ _ h1
    have hrw := rowK (L := L) (xs := xs) (t := t) (d := 4 * n + 10) (sl := 0) (i := x) B.2.1.1 hR.1.2.1
    have ih := lp_138b_1_2 (C0 := C0) (t0 := t0) ho hS hD hR hK hb1 hb6 hi4 suf (pre ++ [x])
    rw [len_s] at ih
    have e0 : rf1 S (stp S n) i u 1 2 i0 O N x σ = match fdr x (σ.1 (rTb u)).1 0 with | none => (σ, none) | some (_, r) => (bif rfg u O r then ((σ, some (2, nI i, i0))) else (σ, none)) := rfl
    cases hfd : fdr x (σ.1 (rTb u)).1 0 with
    | none =>
      rw [hfd] at hrw
      have e1 : rf1 S (stp S n) i u 1 2 i0 O N x σ = (σ, none) := by rw [e0, hfd]
      rw [lop_n e1]
      refine w_p (pc1 := 90) rfl rfl ?_
      refine w_p (pc1 := 92) rfl rfl ?_
      refine w_f (a := 269) (b := 95) (bN_ge_f (a := pre.length) (b := is.length) (by omega) (by omega) (by omega)) rfl rfl ?_
      refine w_p (pc1 := 96) rfl rfl ?_
      refine w_m0 (pc1 := 99) rfl rfl (h_gC rfl rfl rfl rfl) rfl ?_
      refine w_p (pc1 := 101) rfl rfl ?_
      refine w_m0 (pc1 := 102) (st1 := .ref (61 + D + 100) :: _) rfl rfl (n_als (e := D) rfl rfl (by decide) rfl (by omega) (KS_fo B.1 (by omega))) rfl ?_
      refine w_p (pc1 := 104) rfl rfl ?_
      refine w_m0 (pc1 := 105) (st1 := .int (x) :: _) rfl rfl (n_ile (k := 61 + D) (e := pre.length) rfl (skI (by omega)) rfl (by omega) (hx)) rfl ?_
      refine w_p (pc1 := 107) (al1 := [(9, .int (x)), (8, .int (nI (pre.length))), (7, .int (nI (is.length))), (0, .ref 124), (1, .int (nI (i))), (2, .ref (241 + k0)), (3, .int 1), (4, .int 2), (5, .int (i0)), (6, .int (nI (D)))]) rfl rfl ?_
      refine w_p (pc1 := 108) rfl rfl ?_
      refine w_m0 (pc1 := 111) rfl rfl (h_gC rfl rfl rfl rfl) rfl ?_
      refine w_p (pc1 := 112) rfl rfl ?_
      refine w_m0 (pc1 := 115) (st1 := .int (nI (rTb u)) :: _) rfl rfl (x_gf (k := k0) rfl U.1 rfl) rfl ?_
      refine w_p (pc1 := 117) rfl rfl ?_
      refine w_je (pc1 := 120) (vs := [.ref 113, .int (nI (rTb u)), .int (x)]) (rest := []) (st1 := [.int (-1)]) (hrw) rfl rfl rfl (fun _ _ => rfl) rfl (by exact cl_v my_132 rfl rfl rfl (Nat.le_of_ble_eq_true rfl) rfl (MH_obj rfl rfl) rfl (by decide) rfl rfl) (by rfl) (Nat.le_of_ble_eq_true rfl) (Nat.le_of_ble_eq_true rfl) rfl (by rfl) ?_
      refine w_p (pc1 := 122) (al1 := [(10, .int (-1)), (9, .int (x)), (8, .int (nI (pre.length))), (7, .int (nI (is.length))), (0, .ref 124), (1, .int (nI (i))), (2, .ref (241 + k0)), (3, .int 1), (4, .int 2), (5, .int (i0)), (6, .int (nI (D)))]) rfl rfl ?_
      refine w_p (pc1 := 124) rfl rfl ?_
      refine w_p (pc1 := 125) (st1 := .int (-1) :: _) rfl rfl ?_
      refine w_t (a := 263) (b := 128) rfl rfl rfl ?_
      refine w_iinc (pc1 := 266) (u := nI (pre.length)) (z := nI (pre.length + 1)) (al1 := [(8, .int (nI (pre.length + 1))), (10, .int (-1)), (9, .int (x)), (7, .int (nI (is.length))), (0, .ref 124), (1, .int (nI (i))), (2, .ref (241 + k0)), (3, .int 1), (4, .int 2), (5, .int (i0)), (6, .int (nI (D)))]) rfl rfl rfl nK_1 rfl rfl ?_
      refine w_p (pc1 := 88) rfl rfl ?_
      refine Wd_al (al := [(8, .int (nI (pre.length + 1))), (7, .int (nI (is.length))), (0, .ref 124), (1, .int (nI (i))), (2, .ref (241 + k0)), (3, .int 1), (4, .int 2), (5, .int (i0)), (6, .int (nI (D)))]) (sba_p [0, 3, 4, 5, 6, 7, 8, 9, 10] rfl rfl) ?_
      exact ih C t σ h3 B U0 hid hf hst
    | some q =>
      obtain ⟨k, r⟩ := q
      rw [hfd] at hrw
      obtain ⟨-, hr, hr1⟩ := fdr_s hfd
      rw [Nat.sub_zero] at hr
      have hkl := get_lt hr
      have hrf := m_139 (L := L) (xs := xs) (d := 4 * n + 10) (sl := 0) (kr := 31 + D) (l := []) (O := O) (skO (by omega)) B.2.1.1 U hR hK hb1 hw6 B.2.2.2.2 hr
      cases hy : rfg u O r with
      | false =>
        rw [hy] at hrf
        have e1 : rf1 S (stp S n) i u 1 2 i0 O N x σ = (σ, none) := by rw [e0, hfd]; show (bif rfg u O r then _ else _) = _; rw [hy]; rfl
        rw [lop_n e1]
        refine w_p (pc1 := 90) rfl rfl ?_
        refine w_p (pc1 := 92) rfl rfl ?_
        refine w_f (a := 269) (b := 95) (bN_ge_f (a := pre.length) (b := is.length) (by omega) (by omega) (by omega)) rfl rfl ?_
        refine w_p (pc1 := 96) rfl rfl ?_
        refine w_m0 (pc1 := 99) rfl rfl (h_gC rfl rfl rfl rfl) rfl ?_
        refine w_p (pc1 := 101) rfl rfl ?_
        refine w_m0 (pc1 := 102) (st1 := .ref (61 + D + 100) :: _) rfl rfl (n_als (e := D) rfl rfl (by decide) rfl (by omega) (KS_fo B.1 (by omega))) rfl ?_
        refine w_p (pc1 := 104) rfl rfl ?_
        refine w_m0 (pc1 := 105) (st1 := .int (x) :: _) rfl rfl (n_ile (k := 61 + D) (e := pre.length) rfl (skI (by omega)) rfl (by omega) (hx)) rfl ?_
        refine w_p (pc1 := 107) (al1 := [(9, .int (x)), (8, .int (nI (pre.length))), (7, .int (nI (is.length))), (0, .ref 124), (1, .int (nI (i))), (2, .ref (241 + k0)), (3, .int 1), (4, .int 2), (5, .int (i0)), (6, .int (nI (D)))]) rfl rfl ?_
        refine w_p (pc1 := 108) rfl rfl ?_
        refine w_m0 (pc1 := 111) rfl rfl (h_gC rfl rfl rfl rfl) rfl ?_
        refine w_p (pc1 := 112) rfl rfl ?_
        refine w_m0 (pc1 := 115) (st1 := .int (nI (rTb u)) :: _) rfl rfl (x_gf (k := k0) rfl U.1 rfl) rfl ?_
        refine w_p (pc1 := 117) rfl rfl ?_
        refine w_je (pc1 := 120) (vs := [.ref 113, .int (nI (rTb u)), .int (x)]) (rest := []) (st1 := [.int (nI (k))]) (hrw) rfl rfl rfl (fun _ _ => rfl) rfl (by exact cl_v my_132 rfl rfl rfl (Nat.le_of_ble_eq_true rfl) rfl (MH_obj rfl rfl) rfl (by decide) rfl rfl) (by rfl) (Nat.le_of_ble_eq_true rfl) (Nat.le_of_ble_eq_true rfl) rfl (by rfl) ?_
        refine w_p (pc1 := 122) (al1 := [(10, .int (nI (k))), (9, .int (x)), (8, .int (nI (pre.length))), (7, .int (nI (is.length))), (0, .ref 124), (1, .int (nI (i))), (2, .ref (241 + k0)), (3, .int 1), (4, .int 2), (5, .int (i0)), (6, .int (nI (D)))]) rfl rfl ?_
        refine w_p (pc1 := 124) rfl rfl ?_
        refine w_p (pc1 := 125) (st1 := .int (-1) :: _) rfl rfl ?_
        refine w_f (a := 263) (b := 128) (cb_eq_f (by exact nK_m1 (by omega))) rfl rfl ?_
        refine w_p (pc1 := 129) rfl rfl ?_
        refine w_p (pc1 := 130) rfl rfl ?_
        refine w_m0 (pc1 := 133) rfl rfl (h_gC rfl rfl rfl rfl) rfl ?_
        refine w_p (pc1 := 135) rfl rfl ?_
        refine w_p (pc1 := 136) rfl rfl ?_
        refine w_m0 (pc1 := 139) rfl rfl (h_gC rfl rfl rfl rfl) rfl ?_
        refine w_p (pc1 := 141) rfl rfl ?_
        refine w_m0 (pc1 := 142) (st1 := .ref (31 + D + 100) :: _) rfl rfl (n_als (e := D) rfl rfl (by decide) rfl (by omega) (KS_ol B.1 (by omega))) rfl ?_
        refine w_je (pc1 := 145) (vs := [.ref (241 + k0), .ref 113, .int (nI (k)), .ref (31 + D + 100)]) (rest := []) (st1 := [.int 0]) (hrf) rfl rfl rfl (fun _ _ => rfl) rfl (by exact cl_v my_139 rfl rfl rfl (Nat.le_of_ble_eq_true rfl) rfl (x_obj U.1) rfl (by decide) rfl rfl) (by rfl) (Nat.le_of_ble_eq_true rfl) (Nat.le_of_ble_eq_true rfl) rfl (by rfl) ?_
        refine w_t (a := 263) (b := 148) rfl rfl rfl ?_
        refine w_iinc (pc1 := 266) (u := nI (pre.length)) (z := nI (pre.length + 1)) (al1 := [(8, .int (nI (pre.length + 1))), (10, .int (nI (k))), (9, .int (x)), (7, .int (nI (is.length))), (0, .ref 124), (1, .int (nI (i))), (2, .ref (241 + k0)), (3, .int 1), (4, .int 2), (5, .int (i0)), (6, .int (nI (D)))]) rfl rfl rfl nK_1 rfl rfl ?_
        refine w_p (pc1 := 88) rfl rfl ?_
        refine Wd_al (al := [(8, .int (nI (pre.length + 1))), (7, .int (nI (is.length))), (0, .ref 124), (1, .int (nI (i))), (2, .ref (241 + k0)), (3, .int 1), (4, .int 2), (5, .int (i0)), (6, .int (nI (D)))]) (sba_p [0, 3, 4, 5, 6, 7, 8, 9, 10] rfl rfl) ?_
        exact ih C t σ h3 B U0 hid hf hst
      | true =>
        rw [hy] at hrf
        have e1 : rf1 S (stp S n) i u 1 2 i0 O N x σ = (σ, some (2, nI i, i0)) := by rw [e0, hfd]; show (bif rfg u O r then _ else _) = _; rw [hy]; rfl
        rw [lop_s e1]
        refine w_p (pc1 := 90) rfl rfl ?_
        refine w_p (pc1 := 92) rfl rfl ?_
        refine w_f (a := 269) (b := 95) (bN_ge_f (a := pre.length) (b := is.length) (by omega) (by omega) (by omega)) rfl rfl ?_
        refine w_p (pc1 := 96) rfl rfl ?_
        refine w_m0 (pc1 := 99) rfl rfl (h_gC rfl rfl rfl rfl) rfl ?_
        refine w_p (pc1 := 101) rfl rfl ?_
        refine w_m0 (pc1 := 102) (st1 := .ref (61 + D + 100) :: _) rfl rfl (n_als (e := D) rfl rfl (by decide) rfl (by omega) (KS_fo B.1 (by omega))) rfl ?_
        refine w_p (pc1 := 104) rfl rfl ?_
        refine w_m0 (pc1 := 105) (st1 := .int (x) :: _) rfl rfl (n_ile (k := 61 + D) (e := pre.length) rfl (skI (by omega)) rfl (by omega) (hx)) rfl ?_
        refine w_p (pc1 := 107) (al1 := [(9, .int (x)), (8, .int (nI (pre.length))), (7, .int (nI (is.length))), (0, .ref 124), (1, .int (nI (i))), (2, .ref (241 + k0)), (3, .int 1), (4, .int 2), (5, .int (i0)), (6, .int (nI (D)))]) rfl rfl ?_
        refine w_p (pc1 := 108) rfl rfl ?_
        refine w_m0 (pc1 := 111) rfl rfl (h_gC rfl rfl rfl rfl) rfl ?_
        refine w_p (pc1 := 112) rfl rfl ?_
        refine w_m0 (pc1 := 115) (st1 := .int (nI (rTb u)) :: _) rfl rfl (x_gf (k := k0) rfl U.1 rfl) rfl ?_
        refine w_p (pc1 := 117) rfl rfl ?_
        refine w_je (pc1 := 120) (vs := [.ref 113, .int (nI (rTb u)), .int (x)]) (rest := []) (st1 := [.int (nI (k))]) (hrw) rfl rfl rfl (fun _ _ => rfl) rfl (by exact cl_v my_132 rfl rfl rfl (Nat.le_of_ble_eq_true rfl) rfl (MH_obj rfl rfl) rfl (by decide) rfl rfl) (by rfl) (Nat.le_of_ble_eq_true rfl) (Nat.le_of_ble_eq_true rfl) rfl (by rfl) ?_
        refine w_p (pc1 := 122) (al1 := [(10, .int (nI (k))), (9, .int (x)), (8, .int (nI (pre.length))), (7, .int (nI (is.length))), (0, .ref 124), (1, .int (nI (i))), (2, .ref (241 + k0)), (3, .int 1), (4, .int 2), (5, .int (i0)), (6, .int (nI (D)))]) rfl rfl ?_
        refine w_p (pc1 := 124) rfl rfl ?_
        refine w_p (pc1 := 125) (st1 := .int (-1) :: _) rfl rfl ?_
        refine w_f (a := 263) (b := 128) (cb_eq_f (by exact nK_m1 (by omega))) rfl rfl ?_
        refine w_p (pc1 := 129) rfl rfl ?_
        refine w_p (pc1 := 130) rfl rfl ?_
        refine w_m0 (pc1 := 133) rfl rfl (h_gC rfl rfl rfl rfl) rfl ?_
        refine w_p (pc1 := 135) rfl rfl ?_
        refine w_p (pc1 := 136) rfl rfl ?_
        refine w_m0 (pc1 := 139) rfl rfl (h_gC rfl rfl rfl rfl) rfl ?_
        refine w_p (pc1 := 141) rfl rfl ?_
        refine w_m0 (pc1 := 142) (st1 := .ref (31 + D + 100) :: _) rfl rfl (n_als (e := D) rfl rfl (by decide) rfl (by omega) (KS_ol B.1 (by omega))) rfl ?_
        refine w_je (pc1 := 145) (vs := [.ref (241 + k0), .ref 113, .int (nI (k)), .ref (31 + D + 100)]) (rest := []) (st1 := [.int 1]) (hrf) rfl rfl rfl (fun _ _ => rfl) rfl (by exact cl_v my_139 rfl rfl rfl (Nat.le_of_ble_eq_true rfl) rfl (x_obj U.1) rfl (by decide) rfl rfl) (by rfl) (Nat.le_of_ble_eq_true rfl) (Nat.le_of_ble_eq_true rfl) rfl (by rfl) ?_
        refine w_f (a := 263) (b := 148) rfl rfl rfl ?_
        refine w_p (pc1 := 149) rfl rfl ?_
        refine w_p (pc1 := 150) (st1 := .int 1 :: _) rfl rfl ?_
        refine w_f (a := 169) (b := 153) rfl rfl rfl ?_
        refine w_p (pc1 := 154) rfl rfl ?_
        refine w_p (pc1 := 155) rfl rfl ?_
        refine w_m0 (pc1 := 158) rfl rfl (h_pI (j := 9) rfl rfl rfl rfl rfl rfl rfl ⟨rfl, rfl⟩ rfl) rfl ?_
        refine w_p (pc1 := 159) rfl rfl ?_
        refine w_p (pc1 := 161) rfl rfl ?_
        refine w_m0 (pc1 := 164) rfl rfl (h_pI (j := 10) rfl rfl rfl rfl rfl rfl rfl ⟨rfl, rfl⟩ rfl) rfl ?_
        refine w_p (pc1 := 165) rfl rfl ?_
        refine w_p (pc1 := 166) (st1 := .int 2 :: _) rfl rfl ?_
        refine w_ji (pc1 := 169) (vs := [.ref 124, .int 2]) (rest := []) (m_119 (d := 4 * n + 6) (sl := 0)) rfl rfl rfl (fun _ _ => rfl) rfl (by exact cl_v my_119 rfl rfl rfl (Nat.le_of_ble_eq_true rfl) rfl (MH_obj rfl rfl) rfl (by decide) rfl rfl) (by rfl) (Nat.le_of_ble_eq_true rfl) (Nat.le_of_ble_eq_true rfl) rfl (fun v h1 d1 hq => ?_) (fun a h1 d1 hq => ?_)
        · exact hq.elim
        · rcases hq with ⟨ha, hh, hn⟩
          · subst ha; subst hh; subst hn
            refine Or.inl ⟨ch_new (by decide) rfl, ?_⟩
            exact ⟨(2, nI i, i0), sI (sI (sI C 24 9 (nI i)) 24 10 i0) 24 6 2, t, ⟨rfl, B.2.1.2.2, ⟨rfl, fun _ => ⟨rfl, rfl⟩, fun h => absurd (show (2 : Nat) = 3 from h) (by decide)⟩, frE_t hf (frE_t (frE_j (by decide)) (frE_t (frE_j (by decide)) frE_s)), hst⟩, rfl, rfl, rfl⟩
set_option maxRecDepth 100000 in
theorem lp_138b_2_2 {C0 : co_T} {t0 : ab_H} {is : List Int32} (ho : okSt S) (hS : STP L xs S n (D + 1)) (hD : D < 13) (hR : okR (sWd S) u) (hK : rKd u = 4) (hb1 : rTg u = some b) (hb6 : b < 6) (hi4 : is.length ≤ 40) : ∀ (suf pre : List Int32) (C : co_T) (t : ab_H) (σ : es_T), pre ++ suf = is → KB C t S σ D w2 (sWd S b) N O → RUK t k0 u → (∀ j x, is[j]? = some x → C.1 (61 + D) j = x) → frE D (D + 1) C0 C → stk t0 t → Wd L xs (4 * n + 12 + 1) y_138 (88, [(8, .int (nI (pre.length))), (7, .int (nI (is.length))), (0, .ref 124), (1, .int (nI (i))), (2, .ref (241 + k0)), (3, .int 2), (4, .int 2), (5, .int (i0)), (6, .int (nI (D)))], [], MH C t, sl) (PR C0 t0 (sWd S) D (D + 1) sl (lop (rf1 S (stp S n) i u 2 2 i0 O N) suf σ)) (XR C0 t0 D (D + 1) sl (lop (rf1 S (stp S n) i u 2 2 i0 O N) suf σ))
  | [], pre, C, t, σ, hp, B, U0, hid, hf, hst => by
    rw [List.append_nil] at hp
    have hl2 := congrArg List.length hp
    obtain ⟨kc, kt, fc, ft, vw, U, hck⟩ := id U0
    refine w_p (pc1 := 90) rfl rfl ?_
    refine w_p (pc1 := 92) rfl rfl ?_
    refine w_t (a := 269) (b := 95) (bN_ge_t (a := pre.length) (b := is.length) (by omega) (by omega) (by omega)) rfl rfl ?_
    refine w_r rfl rfl rfl (fun _ _ => rfl) rfl ?_
    exact ⟨rfl, rfl, ⟨C, t, ⟨B.2.1, hf, hst⟩, rfl⟩, rfl⟩
  | x :: suf, pre, C, t, σ, hp, B, U0, hid, hf, hst => by
    obtain ⟨h1, h2, h3⟩ := get_ap hp
    obtain ⟨kc, kt, fc, ft, vw, U, hck⟩ := id U0
    have h40 := (B.2.1.1 _ hR.1.2.1).2.2.1
    have hw6 := ho.1 b hb6
    have hx := hid _ _ h1
    have hrw := rowK (L := L) (xs := xs) (t := t) (d := 4 * n + 10) (sl := 0) (i := x) B.2.1.1 hR.1.2.1
    have ih := lp_138b_2_2 (C0 := C0) (t0 := t0) ho hS hD hR hK hb1 hb6 hi4 suf (pre ++ [x])
    rw [len_s] at ih
    have e0 : rf1 S (stp S n) i u 2 2 i0 O N x σ = match fdr x (σ.1 (rTb u)).1 0 with | none => (σ, none) | some (_, r) => (bif rfg u O r then (stp S n 2 (rTb u) x r.2 r.2 σ) else (σ, none)) := rfl
    cases hfd : fdr x (σ.1 (rTb u)).1 0 with
    | none =>
      rw [hfd] at hrw
      have e1 : rf1 S (stp S n) i u 2 2 i0 O N x σ = (σ, none) := by rw [e0, hfd]
      rw [lop_n e1]
      refine w_p (pc1 := 90) rfl rfl ?_
      refine w_p (pc1 := 92) rfl rfl ?_
      refine w_f (a := 269) (b := 95) (bN_ge_f (a := pre.length) (b := is.length) (by omega) (by omega) (by omega)) rfl rfl ?_
      refine w_p (pc1 := 96) rfl rfl ?_
      refine w_m0 (pc1 := 99) rfl rfl (h_gC rfl rfl rfl rfl) rfl ?_
      refine w_p (pc1 := 101) rfl rfl ?_
      refine w_m0 (pc1 := 102) (st1 := .ref (61 + D + 100) :: _) rfl rfl (n_als (e := D) rfl rfl (by decide) rfl (by omega) (KS_fo B.1 (by omega))) rfl ?_
      refine w_p (pc1 := 104) rfl rfl ?_
      refine w_m0 (pc1 := 105) (st1 := .int (x) :: _) rfl rfl (n_ile (k := 61 + D) (e := pre.length) rfl (skI (by omega)) rfl (by omega) (hx)) rfl ?_
      refine w_p (pc1 := 107) (al1 := [(9, .int (x)), (8, .int (nI (pre.length))), (7, .int (nI (is.length))), (0, .ref 124), (1, .int (nI (i))), (2, .ref (241 + k0)), (3, .int 2), (4, .int 2), (5, .int (i0)), (6, .int (nI (D)))]) rfl rfl ?_
      refine w_p (pc1 := 108) rfl rfl ?_
      refine w_m0 (pc1 := 111) rfl rfl (h_gC rfl rfl rfl rfl) rfl ?_
      refine w_p (pc1 := 112) rfl rfl ?_
      refine w_m0 (pc1 := 115) (st1 := .int (nI (rTb u)) :: _) rfl rfl (x_gf (k := k0) rfl U.1 rfl) rfl ?_
      refine w_p (pc1 := 117) rfl rfl ?_
      refine w_je (pc1 := 120) (vs := [.ref 113, .int (nI (rTb u)), .int (x)]) (rest := []) (st1 := [.int (-1)]) (hrw) rfl rfl rfl (fun _ _ => rfl) rfl (by exact cl_v my_132 rfl rfl rfl (Nat.le_of_ble_eq_true rfl) rfl (MH_obj rfl rfl) rfl (by decide) rfl rfl) (by rfl) (Nat.le_of_ble_eq_true rfl) (Nat.le_of_ble_eq_true rfl) rfl (by rfl) ?_
      refine w_p (pc1 := 122) (al1 := [(10, .int (-1)), (9, .int (x)), (8, .int (nI (pre.length))), (7, .int (nI (is.length))), (0, .ref 124), (1, .int (nI (i))), (2, .ref (241 + k0)), (3, .int 2), (4, .int 2), (5, .int (i0)), (6, .int (nI (D)))]) rfl rfl ?_
      refine w_p (pc1 := 124) rfl rfl ?_
      refine w_p (pc1 := 125) (st1 := .int (-1) :: _) rfl rfl ?_
      refine w_t (a := 263) (b := 128) rfl rfl rfl ?_
      refine w_iinc (pc1 := 266) (u := nI (pre.length)) (z := nI (pre.length + 1)) (al1 := [(8, .int (nI (pre.length + 1))), (10, .int (-1)), (9, .int (x)), (7, .int (nI (is.length))), (0, .ref 124), (1, .int (nI (i))), (2, .ref (241 + k0)), (3, .int 2), (4, .int 2), (5, .int (i0)), (6, .int (nI (D)))]) rfl rfl rfl nK_1 rfl rfl ?_
      refine w_p (pc1 := 88) rfl rfl ?_
      refine Wd_al (al := [(8, .int (nI (pre.length + 1))), (7, .int (nI (is.length))), (0, .ref 124), (1, .int (nI (i))), (2, .ref (241 + k0)), (3, .int 2), (4, .int 2), (5, .int (i0)), (6, .int (nI (D)))]) (sba_p [0, 3, 4, 5, 6, 7, 8, 9, 10] rfl rfl) ?_
      exact ih C t σ h3 B U0 hid hf hst
    | some q =>
      obtain ⟨k, r⟩ := q
      rw [hfd] at hrw
      obtain ⟨-, hr, hr1⟩ := fdr_s hfd
      rw [Nat.sub_zero] at hr
      have hkl := get_lt hr
      have hrf := m_139 (L := L) (xs := xs) (d := 4 * n + 10) (sl := 0) (kr := 31 + D) (l := []) (O := O) (skO (by omega)) B.2.1.1 U hR hK hb1 hw6 B.2.2.2.2 hr
      cases hy : rfg u O r with
      | false =>
        rw [hy] at hrf
        have e1 : rf1 S (stp S n) i u 2 2 i0 O N x σ = (σ, none) := by rw [e0, hfd]; show (bif rfg u O r then _ else _) = _; rw [hy]; rfl
        rw [lop_n e1]
        refine w_p (pc1 := 90) rfl rfl ?_
        refine w_p (pc1 := 92) rfl rfl ?_
        refine w_f (a := 269) (b := 95) (bN_ge_f (a := pre.length) (b := is.length) (by omega) (by omega) (by omega)) rfl rfl ?_
        refine w_p (pc1 := 96) rfl rfl ?_
        refine w_m0 (pc1 := 99) rfl rfl (h_gC rfl rfl rfl rfl) rfl ?_
        refine w_p (pc1 := 101) rfl rfl ?_
        refine w_m0 (pc1 := 102) (st1 := .ref (61 + D + 100) :: _) rfl rfl (n_als (e := D) rfl rfl (by decide) rfl (by omega) (KS_fo B.1 (by omega))) rfl ?_
        refine w_p (pc1 := 104) rfl rfl ?_
        refine w_m0 (pc1 := 105) (st1 := .int (x) :: _) rfl rfl (n_ile (k := 61 + D) (e := pre.length) rfl (skI (by omega)) rfl (by omega) (hx)) rfl ?_
        refine w_p (pc1 := 107) (al1 := [(9, .int (x)), (8, .int (nI (pre.length))), (7, .int (nI (is.length))), (0, .ref 124), (1, .int (nI (i))), (2, .ref (241 + k0)), (3, .int 2), (4, .int 2), (5, .int (i0)), (6, .int (nI (D)))]) rfl rfl ?_
        refine w_p (pc1 := 108) rfl rfl ?_
        refine w_m0 (pc1 := 111) rfl rfl (h_gC rfl rfl rfl rfl) rfl ?_
        refine w_p (pc1 := 112) rfl rfl ?_
        refine w_m0 (pc1 := 115) (st1 := .int (nI (rTb u)) :: _) rfl rfl (x_gf (k := k0) rfl U.1 rfl) rfl ?_
        refine w_p (pc1 := 117) rfl rfl ?_
        refine w_je (pc1 := 120) (vs := [.ref 113, .int (nI (rTb u)), .int (x)]) (rest := []) (st1 := [.int (nI (k))]) (hrw) rfl rfl rfl (fun _ _ => rfl) rfl (by exact cl_v my_132 rfl rfl rfl (Nat.le_of_ble_eq_true rfl) rfl (MH_obj rfl rfl) rfl (by decide) rfl rfl) (by rfl) (Nat.le_of_ble_eq_true rfl) (Nat.le_of_ble_eq_true rfl) rfl (by rfl) ?_
        refine w_p (pc1 := 122) (al1 := [(10, .int (nI (k))), (9, .int (x)), (8, .int (nI (pre.length))), (7, .int (nI (is.length))), (0, .ref 124), (1, .int (nI (i))), (2, .ref (241 + k0)), (3, .int 2), (4, .int 2), (5, .int (i0)), (6, .int (nI (D)))]) rfl rfl ?_
        refine w_p (pc1 := 124) rfl rfl ?_
        refine w_p (pc1 := 125) (st1 := .int (-1) :: _) rfl rfl ?_
        refine w_f (a := 263) (b := 128) (cb_eq_f (by exact nK_m1 (by omega))) rfl rfl ?_
        refine w_p (pc1 := 129) rfl rfl ?_
        refine w_p (pc1 := 130) rfl rfl ?_
        refine w_m0 (pc1 := 133) rfl rfl (h_gC rfl rfl rfl rfl) rfl ?_
        refine w_p (pc1 := 135) rfl rfl ?_
        refine w_p (pc1 := 136) rfl rfl ?_
        refine w_m0 (pc1 := 139) rfl rfl (h_gC rfl rfl rfl rfl) rfl ?_
        refine w_p (pc1 := 141) rfl rfl ?_
        refine w_m0 (pc1 := 142) (st1 := .ref (31 + D + 100) :: _) rfl rfl (n_als (e := D) rfl rfl (by decide) rfl (by omega) (KS_ol B.1 (by omega))) rfl ?_
        refine w_je (pc1 := 145) (vs := [.ref (241 + k0), .ref 113, .int (nI (k)), .ref (31 + D + 100)]) (rest := []) (st1 := [.int 0]) (hrf) rfl rfl rfl (fun _ _ => rfl) rfl (by exact cl_v my_139 rfl rfl rfl (Nat.le_of_ble_eq_true rfl) rfl (x_obj U.1) rfl (by decide) rfl rfl) (by rfl) (Nat.le_of_ble_eq_true rfl) (Nat.le_of_ble_eq_true rfl) rfl (by rfl) ?_
        refine w_t (a := 263) (b := 148) rfl rfl rfl ?_
        refine w_iinc (pc1 := 266) (u := nI (pre.length)) (z := nI (pre.length + 1)) (al1 := [(8, .int (nI (pre.length + 1))), (10, .int (nI (k))), (9, .int (x)), (7, .int (nI (is.length))), (0, .ref 124), (1, .int (nI (i))), (2, .ref (241 + k0)), (3, .int 2), (4, .int 2), (5, .int (i0)), (6, .int (nI (D)))]) rfl rfl rfl nK_1 rfl rfl ?_
        refine w_p (pc1 := 88) rfl rfl ?_
        refine Wd_al (al := [(8, .int (nI (pre.length + 1))), (7, .int (nI (is.length))), (0, .ref 124), (1, .int (nI (i))), (2, .ref (241 + k0)), (3, .int 2), (4, .int 2), (5, .int (i0)), (6, .int (nI (D)))]) (sba_p [0, 3, 4, 5, 6, 7, 8, 9, 10] rfl rfl) ?_
        exact ih C t σ h3 B U0 hid hf hst
      | true =>
        rw [hy] at hrf
        have fO : frB (31 + (D + 1)) C (ldC C (31 + (D + 1)) ((rTb u * 40 + k) * 6)) := ⟨fun _ _ => rfl, fun _ _ a => ld_o a, rfl⟩
        have hOb : bfK (ldC C (31 + (D + 1)) ((rTb u * 40 + k) * 6)) (31 + (D + 1)) (sWd S (rTb u)) r.2 := ld_v (by omega) B.2.1.1 hR.1.2.1 hr
        have hld := m_133 (L := L) (xs := xs) (t := t) (d := 4 * n + 11) (sl := 0) (kr := 31 + (D + 1)) (skO (by omega)) B.2.1.1 hR.1.2.1 hkl
        have e1 : rf1 S (stp S n) i u 2 2 i0 O N x σ = stp S n 2 (rTb u) x r.2 r.2 σ := by rw [e0, hfd]; show (bif rfg u O r then _ else _) = _; rw [hy]; rfl
        have hcall := hS.2.2 (rTb u) x r.2 r.2 σ _ t hR.1.2.1 (KS_B B.1 fO (by omega)) (KE_B fO (by omega) B.2.1) hOb
        refine w_p (pc1 := 90) rfl rfl ?_
        refine w_p (pc1 := 92) rfl rfl ?_
        refine w_f (a := 269) (b := 95) (bN_ge_f (a := pre.length) (b := is.length) (by omega) (by omega) (by omega)) rfl rfl ?_
        refine w_p (pc1 := 96) rfl rfl ?_
        refine w_m0 (pc1 := 99) rfl rfl (h_gC rfl rfl rfl rfl) rfl ?_
        refine w_p (pc1 := 101) rfl rfl ?_
        refine w_m0 (pc1 := 102) (st1 := .ref (61 + D + 100) :: _) rfl rfl (n_als (e := D) rfl rfl (by decide) rfl (by omega) (KS_fo B.1 (by omega))) rfl ?_
        refine w_p (pc1 := 104) rfl rfl ?_
        refine w_m0 (pc1 := 105) (st1 := .int (x) :: _) rfl rfl (n_ile (k := 61 + D) (e := pre.length) rfl (skI (by omega)) rfl (by omega) (hx)) rfl ?_
        refine w_p (pc1 := 107) (al1 := [(9, .int (x)), (8, .int (nI (pre.length))), (7, .int (nI (is.length))), (0, .ref 124), (1, .int (nI (i))), (2, .ref (241 + k0)), (3, .int 2), (4, .int 2), (5, .int (i0)), (6, .int (nI (D)))]) rfl rfl ?_
        refine w_p (pc1 := 108) rfl rfl ?_
        refine w_m0 (pc1 := 111) rfl rfl (h_gC rfl rfl rfl rfl) rfl ?_
        refine w_p (pc1 := 112) rfl rfl ?_
        refine w_m0 (pc1 := 115) (st1 := .int (nI (rTb u)) :: _) rfl rfl (x_gf (k := k0) rfl U.1 rfl) rfl ?_
        refine w_p (pc1 := 117) rfl rfl ?_
        refine w_je (pc1 := 120) (vs := [.ref 113, .int (nI (rTb u)), .int (x)]) (rest := []) (st1 := [.int (nI (k))]) (hrw) rfl rfl rfl (fun _ _ => rfl) rfl (by exact cl_v my_132 rfl rfl rfl (Nat.le_of_ble_eq_true rfl) rfl (MH_obj rfl rfl) rfl (by decide) rfl rfl) (by rfl) (Nat.le_of_ble_eq_true rfl) (Nat.le_of_ble_eq_true rfl) rfl (by rfl) ?_
        refine w_p (pc1 := 122) (al1 := [(10, .int (nI (k))), (9, .int (x)), (8, .int (nI (pre.length))), (7, .int (nI (is.length))), (0, .ref 124), (1, .int (nI (i))), (2, .ref (241 + k0)), (3, .int 2), (4, .int 2), (5, .int (i0)), (6, .int (nI (D)))]) rfl rfl ?_
        refine w_p (pc1 := 124) rfl rfl ?_
        refine w_p (pc1 := 125) (st1 := .int (-1) :: _) rfl rfl ?_
        refine w_f (a := 263) (b := 128) (cb_eq_f (by exact nK_m1 (by omega))) rfl rfl ?_
        refine w_p (pc1 := 129) rfl rfl ?_
        refine w_p (pc1 := 130) rfl rfl ?_
        refine w_m0 (pc1 := 133) rfl rfl (h_gC rfl rfl rfl rfl) rfl ?_
        refine w_p (pc1 := 135) rfl rfl ?_
        refine w_p (pc1 := 136) rfl rfl ?_
        refine w_m0 (pc1 := 139) rfl rfl (h_gC rfl rfl rfl rfl) rfl ?_
        refine w_p (pc1 := 141) rfl rfl ?_
        refine w_m0 (pc1 := 142) (st1 := .ref (31 + D + 100) :: _) rfl rfl (n_als (e := D) rfl rfl (by decide) rfl (by omega) (KS_ol B.1 (by omega))) rfl ?_
        refine w_je (pc1 := 145) (vs := [.ref (241 + k0), .ref 113, .int (nI (k)), .ref (31 + D + 100)]) (rest := []) (st1 := [.int 1]) (hrf) rfl rfl rfl (fun _ _ => rfl) rfl (by exact cl_v my_139 rfl rfl rfl (Nat.le_of_ble_eq_true rfl) rfl (x_obj U.1) rfl (by decide) rfl rfl) (by rfl) (Nat.le_of_ble_eq_true rfl) (Nat.le_of_ble_eq_true rfl) rfl (by rfl) ?_
        refine w_f (a := 263) (b := 148) rfl rfl rfl ?_
        refine w_p (pc1 := 149) rfl rfl ?_
        refine w_p (pc1 := 150) (st1 := .int 1 :: _) rfl rfl ?_
        refine w_t (a := 169) (b := 153) rfl rfl rfl ?_
        refine w_p (pc1 := 170) rfl rfl ?_
        refine w_m0 (pc1 := 173) rfl rfl (h_gC rfl rfl rfl rfl) rfl ?_
        refine w_p (pc1 := 174) rfl rfl ?_
        refine w_m0 (pc1 := 177) (st1 := .int (nI (rTb u)) :: _) rfl rfl (x_gf (k := k0) rfl U.1 rfl) rfl ?_
        refine w_p (pc1 := 179) rfl rfl ?_
        refine w_p (pc1 := 180) rfl rfl ?_
        refine w_m0 (pc1 := 183) rfl rfl (h_gC rfl rfl rfl rfl) rfl ?_
        refine w_p (pc1 := 185) rfl rfl ?_
        refine w_p (pc1 := 186) (st1 := .int 1 :: _) rfl rfl ?_
        refine w_iadd (pc1 := 187) (u := nI (D)) (v := nI (1)) (z := nI (D + 1)) rfl (nK_add) rfl ?_
        refine w_m0 (pc1 := 188) (st1 := .ref (31 + (D + 1) + 100) :: _) rfl rfl (n_als (e := D + 1) rfl rfl (by decide) rfl (by omega) (KS_ol B.1 (by omega))) rfl ?_
        refine w_je (pc1 := 191) (vs := [.ref 113, .int (nI (rTb u)), .int (nI (k)), .ref (31 + (D + 1) + 100)]) (rest := []) (st1 := []) (hld) rfl rfl rfl (fun _ _ => rfl) rfl (by exact cl_v my_133 rfl rfl rfl (Nat.le_of_ble_eq_true rfl) rfl (MH_obj rfl rfl) rfl (by decide) rfl rfl) (by rfl) (Nat.le_of_ble_eq_true rfl) (Nat.le_of_ble_eq_true rfl) rfl (by rfl) ?_
        refine w_p (pc1 := 192) rfl rfl ?_
        refine w_p (pc1 := 193) (st1 := .int 2 :: _) rfl rfl ?_
        refine w_f (a := 219) (b := 196) rfl rfl rfl ?_
        refine w_p (pc1 := 198) rfl rfl ?_
        refine w_p (pc1 := 199) (st1 := .int 2 :: _) rfl rfl ?_
        refine w_f (a := 219) (b := 202) rfl rfl rfl ?_
        refine w_p (pc1 := 203) rfl rfl ?_
        refine w_p (pc1 := 204) rfl rfl ?_
        refine w_m0 (pc1 := 207) (st1 := .int (nI (rTb u)) :: _) rfl rfl (x_gf (k := k0) rfl U.1 rfl) rfl ?_
        refine w_p (pc1 := 209) rfl rfl ?_
        refine w_p (pc1 := 211) rfl rfl ?_
        refine w_p (pc1 := 212) (st1 := .int 1 :: _) rfl rfl ?_
        refine w_iadd (pc1 := 213) (u := nI (D)) (v := nI (1)) (z := nI (D + 1)) rfl (nK_add) rfl ?_
        refine w_ji (pc1 := 216) (vs := [.ref 124, .int (nI (rTb u)), .int (x), .int (nI (D + 1))]) (rest := []) (hcall) rfl rfl rfl (fun _ _ => rfl) rfl (by exact cl_v my_134 rfl rfl rfl (Nat.le_of_ble_eq_true rfl) rfl (MH_obj rfl rfl) rfl (by decide) rfl rfl) (by rfl) (Nat.le_of_ble_eq_true rfl) (Nat.le_of_ble_eq_true rfl) rfl (fun v h1 d1 hq => ?_) (fun a h1 d1 hq => ?_)
        · obtain ⟨z1, hv, ⟨C9, t9, ⟨z2, z3, z4⟩, hh⟩, hn⟩ := hq
          subst hv; subst hh; subst hn
          have f9 : frE D (D + 1) C C9 := frE_t (frB_E fO (by omega)) (frE_u z3 (by omega) (by omega))
          refine w_p (pc1 := 263) rfl rfl ?_
          refine w_iinc (pc1 := 266) (u := nI (pre.length)) (z := nI (pre.length + 1)) (al1 := [(8, .int (nI (pre.length + 1))), (10, .int (nI (k))), (9, .int (x)), (7, .int (nI (is.length))), (0, .ref 124), (1, .int (nI (i))), (2, .ref (241 + k0)), (3, .int 2), (4, .int 2), (5, .int (i0)), (6, .int (nI (D)))]) rfl rfl rfl nK_1 rfl rfl ?_
          refine w_p (pc1 := 88) rfl rfl ?_
          have f9i : ∀ j, C9.1 (61 + D) j = C.1 (61 + D) j := fun j => (z3.1 (61 + D) j (by omega) (by omega) (by omega)).trans (fO.1 (61 + D) j)
          refine Wd_al (al := [(8, .int (nI (pre.length + 1))), (7, .int (nI (is.length))), (0, .ref 124), (1, .int (nI (i))), (2, .ref (241 + k0)), (3, .int 2), (4, .int 2), (5, .int (i0)), (6, .int (nI (D)))]) (sba_p [0, 3, 4, 5, 6, 7, 8, 9, 10] rfl rfl) ?_
          rw [lop_n (show rf1 S (stp S n) i u 2 2 i0 O N x σ = ((stp S n 2 (rTb u) x r.2 r.2 σ).1, none) by rw [e1, ← z1])]
          exact ih C9 t9 _ h3 (KB_n B (by omega) f9 z4 z2) (RUK_k z4 U0) (fun j y hj => (f9i j).trans (hid j y hj)) (frE_t hf f9) (stk_t hst z4)
        · rcases hq with ⟨e9, C9, t9, ⟨z1, z2, z3, z4, z5⟩, ha, hh, hn⟩
          · subst ha; subst hh; subst hn
            refine Or.inl ⟨ch_new (by decide) rfl, ?_⟩
            rw [lop_s (show rf1 S (stp S n) i u 2 2 i0 O N x σ = ((stp S n 2 (rTb u) x r.2 r.2 σ).1, some e9) by rw [e1, ← z1])]
            exact ⟨e9, C9, t9, ⟨rfl, z2, z3, frE_t hf (frE_t (frB_E fO (by omega)) (frE_u z4 (by omega) (by omega))), stk_t hst z5⟩, rfl, rfl, rfl⟩
set_option maxRecDepth 100000 in
theorem lp_138b_3_2 {C0 : co_T} {t0 : ab_H} {is : List Int32} (ho : okSt S) (hS : STP L xs S n (D + 1)) (hD : D < 13) (hR : okR (sWd S) u) (hK : rKd u = 4) (hb1 : rTg u = some b) (hb6 : b < 6) (hi4 : is.length ≤ 40) : ∀ (suf pre : List Int32) (C : co_T) (t : ab_H) (σ : es_T), pre ++ suf = is → KB C t S σ D w2 (sWd S b) N O → RUK t k0 u → (∀ j x, is[j]? = some x → C.1 (61 + D) j = x) → frE D (D + 1) C0 C → stk t0 t → Wd L xs (4 * n + 12 + 1) y_138 (88, [(8, .int (nI (pre.length))), (7, .int (nI (is.length))), (0, .ref 124), (1, .int (nI (i))), (2, .ref (241 + k0)), (3, .int 3), (4, .int 2), (5, .int (i0)), (6, .int (nI (D)))], [], MH C t, sl) (PR C0 t0 (sWd S) D (D + 1) sl (lop (rf1 S (stp S n) i u 3 2 i0 O N) suf σ)) (XR C0 t0 D (D + 1) sl (lop (rf1 S (stp S n) i u 3 2 i0 O N) suf σ))
  | [], pre, C, t, σ, hp, B, U0, hid, hf, hst => by
    rw [List.append_nil] at hp
    have hl2 := congrArg List.length hp
    obtain ⟨kc, kt, fc, ft, vw, U, hck⟩ := id U0
    refine w_p (pc1 := 90) rfl rfl ?_
    refine w_p (pc1 := 92) rfl rfl ?_
    refine w_t (a := 269) (b := 95) (bN_ge_t (a := pre.length) (b := is.length) (by omega) (by omega) (by omega)) rfl rfl ?_
    refine w_r rfl rfl rfl (fun _ _ => rfl) rfl ?_
    exact ⟨rfl, rfl, ⟨C, t, ⟨B.2.1, hf, hst⟩, rfl⟩, rfl⟩
  | x :: suf, pre, C, t, σ, hp, B, U0, hid, hf, hst => by
    obtain ⟨h1, h2, h3⟩ := get_ap hp
    obtain ⟨kc, kt, fc, ft, vw, U, hck⟩ := id U0
    have h40 := (B.2.1.1 _ hR.1.2.1).2.2.1
    have hw6 := ho.1 b hb6
    have hx := hid _ _ h1
    have hrw := rowK (L := L) (xs := xs) (t := t) (d := 4 * n + 10) (sl := 0) (i := x) B.2.1.1 hR.1.2.1
    have ih := lp_138b_3_2 (C0 := C0) (t0 := t0) ho hS hD hR hK hb1 hb6 hi4 suf (pre ++ [x])
    rw [len_s] at ih
    have e0 : rf1 S (stp S n) i u 3 2 i0 O N x σ = match fdr x (σ.1 (rTb u)).1 0 with | none => (σ, none) | some (_, r) => (bif rfg u O r then (stp S n 1 (rTb u) x r.2 (setR 3 N (sDf S (rTb u)) r.2 (rCs u) (rOs u)) σ) else (σ, none)) := rfl
    cases hfd : fdr x (σ.1 (rTb u)).1 0 with
    | none =>
      rw [hfd] at hrw
      have e1 : rf1 S (stp S n) i u 3 2 i0 O N x σ = (σ, none) := by rw [e0, hfd]
      rw [lop_n e1]
      refine w_p (pc1 := 90) rfl rfl ?_
      refine w_p (pc1 := 92) rfl rfl ?_
      refine w_f (a := 269) (b := 95) (bN_ge_f (a := pre.length) (b := is.length) (by omega) (by omega) (by omega)) rfl rfl ?_
      refine w_p (pc1 := 96) rfl rfl ?_
      refine w_m0 (pc1 := 99) rfl rfl (h_gC rfl rfl rfl rfl) rfl ?_
      refine w_p (pc1 := 101) rfl rfl ?_
      refine w_m0 (pc1 := 102) (st1 := .ref (61 + D + 100) :: _) rfl rfl (n_als (e := D) rfl rfl (by decide) rfl (by omega) (KS_fo B.1 (by omega))) rfl ?_
      refine w_p (pc1 := 104) rfl rfl ?_
      refine w_m0 (pc1 := 105) (st1 := .int (x) :: _) rfl rfl (n_ile (k := 61 + D) (e := pre.length) rfl (skI (by omega)) rfl (by omega) (hx)) rfl ?_
      refine w_p (pc1 := 107) (al1 := [(9, .int (x)), (8, .int (nI (pre.length))), (7, .int (nI (is.length))), (0, .ref 124), (1, .int (nI (i))), (2, .ref (241 + k0)), (3, .int 3), (4, .int 2), (5, .int (i0)), (6, .int (nI (D)))]) rfl rfl ?_
      refine w_p (pc1 := 108) rfl rfl ?_
      refine w_m0 (pc1 := 111) rfl rfl (h_gC rfl rfl rfl rfl) rfl ?_
      refine w_p (pc1 := 112) rfl rfl ?_
      refine w_m0 (pc1 := 115) (st1 := .int (nI (rTb u)) :: _) rfl rfl (x_gf (k := k0) rfl U.1 rfl) rfl ?_
      refine w_p (pc1 := 117) rfl rfl ?_
      refine w_je (pc1 := 120) (vs := [.ref 113, .int (nI (rTb u)), .int (x)]) (rest := []) (st1 := [.int (-1)]) (hrw) rfl rfl rfl (fun _ _ => rfl) rfl (by exact cl_v my_132 rfl rfl rfl (Nat.le_of_ble_eq_true rfl) rfl (MH_obj rfl rfl) rfl (by decide) rfl rfl) (by rfl) (Nat.le_of_ble_eq_true rfl) (Nat.le_of_ble_eq_true rfl) rfl (by rfl) ?_
      refine w_p (pc1 := 122) (al1 := [(10, .int (-1)), (9, .int (x)), (8, .int (nI (pre.length))), (7, .int (nI (is.length))), (0, .ref 124), (1, .int (nI (i))), (2, .ref (241 + k0)), (3, .int 3), (4, .int 2), (5, .int (i0)), (6, .int (nI (D)))]) rfl rfl ?_
      refine w_p (pc1 := 124) rfl rfl ?_
      refine w_p (pc1 := 125) (st1 := .int (-1) :: _) rfl rfl ?_
      refine w_t (a := 263) (b := 128) rfl rfl rfl ?_
      refine w_iinc (pc1 := 266) (u := nI (pre.length)) (z := nI (pre.length + 1)) (al1 := [(8, .int (nI (pre.length + 1))), (10, .int (-1)), (9, .int (x)), (7, .int (nI (is.length))), (0, .ref 124), (1, .int (nI (i))), (2, .ref (241 + k0)), (3, .int 3), (4, .int 2), (5, .int (i0)), (6, .int (nI (D)))]) rfl rfl rfl nK_1 rfl rfl ?_
      refine w_p (pc1 := 88) rfl rfl ?_
      refine Wd_al (al := [(8, .int (nI (pre.length + 1))), (7, .int (nI (is.length))), (0, .ref 124), (1, .int (nI (i))), (2, .ref (241 + k0)), (3, .int 3), (4, .int 2), (5, .int (i0)), (6, .int (nI (D)))]) (sba_p [0, 3, 4, 5, 6, 7, 8, 9, 10] rfl rfl) ?_
      exact ih C t σ h3 B U0 hid hf hst
    | some q =>
      obtain ⟨k, r⟩ := q
      rw [hfd] at hrw
      obtain ⟨-, hr, hr1⟩ := fdr_s hfd
      rw [Nat.sub_zero] at hr
      have hkl := get_lt hr
      have hrf := m_139 (L := L) (xs := xs) (d := 4 * n + 10) (sl := 0) (kr := 31 + D) (l := []) (O := O) (skO (by omega)) B.2.1.1 U hR hK hb1 hw6 B.2.2.2.2 hr
      cases hy : rfg u O r with
      | false =>
        rw [hy] at hrf
        have e1 : rf1 S (stp S n) i u 3 2 i0 O N x σ = (σ, none) := by rw [e0, hfd]; show (bif rfg u O r then _ else _) = _; rw [hy]; rfl
        rw [lop_n e1]
        refine w_p (pc1 := 90) rfl rfl ?_
        refine w_p (pc1 := 92) rfl rfl ?_
        refine w_f (a := 269) (b := 95) (bN_ge_f (a := pre.length) (b := is.length) (by omega) (by omega) (by omega)) rfl rfl ?_
        refine w_p (pc1 := 96) rfl rfl ?_
        refine w_m0 (pc1 := 99) rfl rfl (h_gC rfl rfl rfl rfl) rfl ?_
        refine w_p (pc1 := 101) rfl rfl ?_
        refine w_m0 (pc1 := 102) (st1 := .ref (61 + D + 100) :: _) rfl rfl (n_als (e := D) rfl rfl (by decide) rfl (by omega) (KS_fo B.1 (by omega))) rfl ?_
        refine w_p (pc1 := 104) rfl rfl ?_
        refine w_m0 (pc1 := 105) (st1 := .int (x) :: _) rfl rfl (n_ile (k := 61 + D) (e := pre.length) rfl (skI (by omega)) rfl (by omega) (hx)) rfl ?_
        refine w_p (pc1 := 107) (al1 := [(9, .int (x)), (8, .int (nI (pre.length))), (7, .int (nI (is.length))), (0, .ref 124), (1, .int (nI (i))), (2, .ref (241 + k0)), (3, .int 3), (4, .int 2), (5, .int (i0)), (6, .int (nI (D)))]) rfl rfl ?_
        refine w_p (pc1 := 108) rfl rfl ?_
        refine w_m0 (pc1 := 111) rfl rfl (h_gC rfl rfl rfl rfl) rfl ?_
        refine w_p (pc1 := 112) rfl rfl ?_
        refine w_m0 (pc1 := 115) (st1 := .int (nI (rTb u)) :: _) rfl rfl (x_gf (k := k0) rfl U.1 rfl) rfl ?_
        refine w_p (pc1 := 117) rfl rfl ?_
        refine w_je (pc1 := 120) (vs := [.ref 113, .int (nI (rTb u)), .int (x)]) (rest := []) (st1 := [.int (nI (k))]) (hrw) rfl rfl rfl (fun _ _ => rfl) rfl (by exact cl_v my_132 rfl rfl rfl (Nat.le_of_ble_eq_true rfl) rfl (MH_obj rfl rfl) rfl (by decide) rfl rfl) (by rfl) (Nat.le_of_ble_eq_true rfl) (Nat.le_of_ble_eq_true rfl) rfl (by rfl) ?_
        refine w_p (pc1 := 122) (al1 := [(10, .int (nI (k))), (9, .int (x)), (8, .int (nI (pre.length))), (7, .int (nI (is.length))), (0, .ref 124), (1, .int (nI (i))), (2, .ref (241 + k0)), (3, .int 3), (4, .int 2), (5, .int (i0)), (6, .int (nI (D)))]) rfl rfl ?_
        refine w_p (pc1 := 124) rfl rfl ?_
        refine w_p (pc1 := 125) (st1 := .int (-1) :: _) rfl rfl ?_
        refine w_f (a := 263) (b := 128) (cb_eq_f (by exact nK_m1 (by omega))) rfl rfl ?_
        refine w_p (pc1 := 129) rfl rfl ?_
        refine w_p (pc1 := 130) rfl rfl ?_
        refine w_m0 (pc1 := 133) rfl rfl (h_gC rfl rfl rfl rfl) rfl ?_
        refine w_p (pc1 := 135) rfl rfl ?_
        refine w_p (pc1 := 136) rfl rfl ?_
        refine w_m0 (pc1 := 139) rfl rfl (h_gC rfl rfl rfl rfl) rfl ?_
        refine w_p (pc1 := 141) rfl rfl ?_
        refine w_m0 (pc1 := 142) (st1 := .ref (31 + D + 100) :: _) rfl rfl (n_als (e := D) rfl rfl (by decide) rfl (by omega) (KS_ol B.1 (by omega))) rfl ?_
        refine w_je (pc1 := 145) (vs := [.ref (241 + k0), .ref 113, .int (nI (k)), .ref (31 + D + 100)]) (rest := []) (st1 := [.int 0]) (hrf) rfl rfl rfl (fun _ _ => rfl) rfl (by exact cl_v my_139 rfl rfl rfl (Nat.le_of_ble_eq_true rfl) rfl (x_obj U.1) rfl (by decide) rfl rfl) (by rfl) (Nat.le_of_ble_eq_true rfl) (Nat.le_of_ble_eq_true rfl) rfl (by rfl) ?_
        refine w_t (a := 263) (b := 148) rfl rfl rfl ?_
        refine w_iinc (pc1 := 266) (u := nI (pre.length)) (z := nI (pre.length + 1)) (al1 := [(8, .int (nI (pre.length + 1))), (10, .int (nI (k))), (9, .int (x)), (7, .int (nI (is.length))), (0, .ref 124), (1, .int (nI (i))), (2, .ref (241 + k0)), (3, .int 3), (4, .int 2), (5, .int (i0)), (6, .int (nI (D)))]) rfl rfl rfl nK_1 rfl rfl ?_
        refine w_p (pc1 := 88) rfl rfl ?_
        refine Wd_al (al := [(8, .int (nI (pre.length + 1))), (7, .int (nI (is.length))), (0, .ref 124), (1, .int (nI (i))), (2, .ref (241 + k0)), (3, .int 3), (4, .int 2), (5, .int (i0)), (6, .int (nI (D)))]) (sba_p [0, 3, 4, 5, 6, 7, 8, 9, 10] rfl rfl) ?_
        exact ih C t σ h3 B U0 hid hf hst
      | true =>
        rw [hy] at hrf
        have fO : frB (31 + (D + 1)) C (ldC C (31 + (D + 1)) ((rTb u * 40 + k) * 6)) := ⟨fun _ _ => rfl, fun _ _ a => ld_o a, rfl⟩
        have hOb : bfK (ldC C (31 + (D + 1)) ((rTb u * 40 + k) * 6)) (31 + (D + 1)) (sWd S (rTb u)) r.2 := ld_v (by omega) B.2.1.1 hR.1.2.1 hr
        have hld := m_133 (L := L) (xs := xs) (t := t) (d := 4 * n + 11) (sl := 0) (kr := 31 + (D + 1)) (skO (by omega)) B.2.1.1 hR.1.2.1 hkl
        have fF : frB (46 + (D + 1)) (ldC C (31 + (D + 1)) ((rTb u * 40 + k) * 6)) (ldC (ldC C (31 + (D + 1)) ((rTb u * 40 + k) * 6)) (46 + (D + 1)) ((rTb u * 40 + k) * 6)) := ⟨fun _ _ => rfl, fun _ _ a => ld_o a, rfl⟩
        have hW1 := KE_B fO (by omega) B.2.1
        have hFb : bfK (ldC (ldC C (31 + (D + 1)) ((rTb u * 40 + k) * 6)) (46 + (D + 1)) ((rTb u * 40 + k) * 6)) (46 + (D + 1)) (sWd S (rTb u)) r.2 := ld_v (by omega) hW1.1 hR.1.2.1 hr
        have hld2 := m_133 (L := L) (xs := xs) (t := t) (d := 4 * n + 11) (sl := 0) (kr := 46 + (D + 1)) (skF (by omega)) hW1.1 hR.1.2.1 hkl
        have fOE : frE D (D + 1) C (ldC (ldC C (31 + (D + 1)) ((rTb u * 40 + k) * 6)) (46 + (D + 1)) ((rTb u * 40 + k) * 6)) := frE_t (frB_E fO (by omega)) (frB_E fF (by omega))
        have B2 : KB (ldC (ldC C (31 + (D + 1)) ((rTb u * 40 + k) * 6)) (46 + (D + 1)) ((rTb u * 40 + k) * 6)) t S σ D w2 (sWd S b) N O := KB_n B (by omega) fOE stk_r (KE_B fF (by omega) hW1)
        have hset := m_141_3 (L := L) (xs := xs) (d := 4 * n + 10) (sl := 0) (N := N) hD ho U hR hK hb1 B2.1 hFb
        have e1 : rf1 S (stp S n) i u 3 2 i0 O N x σ = stp S n 1 (rTb u) x r.2 (setR 3 N (sDf S (rTb u)) r.2 (rCs u) (rOs u)) σ := by rw [e0, hfd]; show (bif rfg u O r then _ else _) = _; rw [hy]; rfl
        refine w_p (pc1 := 90) rfl rfl ?_
        refine w_p (pc1 := 92) rfl rfl ?_
        refine w_f (a := 269) (b := 95) (bN_ge_f (a := pre.length) (b := is.length) (by omega) (by omega) (by omega)) rfl rfl ?_
        refine w_p (pc1 := 96) rfl rfl ?_
        refine w_m0 (pc1 := 99) rfl rfl (h_gC rfl rfl rfl rfl) rfl ?_
        refine w_p (pc1 := 101) rfl rfl ?_
        refine w_m0 (pc1 := 102) (st1 := .ref (61 + D + 100) :: _) rfl rfl (n_als (e := D) rfl rfl (by decide) rfl (by omega) (KS_fo B.1 (by omega))) rfl ?_
        refine w_p (pc1 := 104) rfl rfl ?_
        refine w_m0 (pc1 := 105) (st1 := .int (x) :: _) rfl rfl (n_ile (k := 61 + D) (e := pre.length) rfl (skI (by omega)) rfl (by omega) (hx)) rfl ?_
        refine w_p (pc1 := 107) (al1 := [(9, .int (x)), (8, .int (nI (pre.length))), (7, .int (nI (is.length))), (0, .ref 124), (1, .int (nI (i))), (2, .ref (241 + k0)), (3, .int 3), (4, .int 2), (5, .int (i0)), (6, .int (nI (D)))]) rfl rfl ?_
        refine w_p (pc1 := 108) rfl rfl ?_
        refine w_m0 (pc1 := 111) rfl rfl (h_gC rfl rfl rfl rfl) rfl ?_
        refine w_p (pc1 := 112) rfl rfl ?_
        refine w_m0 (pc1 := 115) (st1 := .int (nI (rTb u)) :: _) rfl rfl (x_gf (k := k0) rfl U.1 rfl) rfl ?_
        refine w_p (pc1 := 117) rfl rfl ?_
        refine w_je (pc1 := 120) (vs := [.ref 113, .int (nI (rTb u)), .int (x)]) (rest := []) (st1 := [.int (nI (k))]) (hrw) rfl rfl rfl (fun _ _ => rfl) rfl (by exact cl_v my_132 rfl rfl rfl (Nat.le_of_ble_eq_true rfl) rfl (MH_obj rfl rfl) rfl (by decide) rfl rfl) (by rfl) (Nat.le_of_ble_eq_true rfl) (Nat.le_of_ble_eq_true rfl) rfl (by rfl) ?_
        refine w_p (pc1 := 122) (al1 := [(10, .int (nI (k))), (9, .int (x)), (8, .int (nI (pre.length))), (7, .int (nI (is.length))), (0, .ref 124), (1, .int (nI (i))), (2, .ref (241 + k0)), (3, .int 3), (4, .int 2), (5, .int (i0)), (6, .int (nI (D)))]) rfl rfl ?_
        refine w_p (pc1 := 124) rfl rfl ?_
        refine w_p (pc1 := 125) (st1 := .int (-1) :: _) rfl rfl ?_
        refine w_f (a := 263) (b := 128) (cb_eq_f (by exact nK_m1 (by omega))) rfl rfl ?_
        refine w_p (pc1 := 129) rfl rfl ?_
        refine w_p (pc1 := 130) rfl rfl ?_
        refine w_m0 (pc1 := 133) rfl rfl (h_gC rfl rfl rfl rfl) rfl ?_
        refine w_p (pc1 := 135) rfl rfl ?_
        refine w_p (pc1 := 136) rfl rfl ?_
        refine w_m0 (pc1 := 139) rfl rfl (h_gC rfl rfl rfl rfl) rfl ?_
        refine w_p (pc1 := 141) rfl rfl ?_
        refine w_m0 (pc1 := 142) (st1 := .ref (31 + D + 100) :: _) rfl rfl (n_als (e := D) rfl rfl (by decide) rfl (by omega) (KS_ol B.1 (by omega))) rfl ?_
        refine w_je (pc1 := 145) (vs := [.ref (241 + k0), .ref 113, .int (nI (k)), .ref (31 + D + 100)]) (rest := []) (st1 := [.int 1]) (hrf) rfl rfl rfl (fun _ _ => rfl) rfl (by exact cl_v my_139 rfl rfl rfl (Nat.le_of_ble_eq_true rfl) rfl (x_obj U.1) rfl (by decide) rfl rfl) (by rfl) (Nat.le_of_ble_eq_true rfl) (Nat.le_of_ble_eq_true rfl) rfl (by rfl) ?_
        refine w_f (a := 263) (b := 148) rfl rfl rfl ?_
        refine w_p (pc1 := 149) rfl rfl ?_
        refine w_p (pc1 := 150) (st1 := .int 1 :: _) rfl rfl ?_
        refine w_t (a := 169) (b := 153) rfl rfl rfl ?_
        refine w_p (pc1 := 170) rfl rfl ?_
        refine w_m0 (pc1 := 173) rfl rfl (h_gC rfl rfl rfl rfl) rfl ?_
        refine w_p (pc1 := 174) rfl rfl ?_
        refine w_m0 (pc1 := 177) (st1 := .int (nI (rTb u)) :: _) rfl rfl (x_gf (k := k0) rfl U.1 rfl) rfl ?_
        refine w_p (pc1 := 179) rfl rfl ?_
        refine w_p (pc1 := 180) rfl rfl ?_
        refine w_m0 (pc1 := 183) rfl rfl (h_gC rfl rfl rfl rfl) rfl ?_
        refine w_p (pc1 := 185) rfl rfl ?_
        refine w_p (pc1 := 186) (st1 := .int 1 :: _) rfl rfl ?_
        refine w_iadd (pc1 := 187) (u := nI (D)) (v := nI (1)) (z := nI (D + 1)) rfl (nK_add) rfl ?_
        refine w_m0 (pc1 := 188) (st1 := .ref (31 + (D + 1) + 100) :: _) rfl rfl (n_als (e := D + 1) rfl rfl (by decide) rfl (by omega) (KS_ol B.1 (by omega))) rfl ?_
        refine w_je (pc1 := 191) (vs := [.ref 113, .int (nI (rTb u)), .int (nI (k)), .ref (31 + (D + 1) + 100)]) (rest := []) (st1 := []) (hld) rfl rfl rfl (fun _ _ => rfl) rfl (by exact cl_v my_133 rfl rfl rfl (Nat.le_of_ble_eq_true rfl) rfl (MH_obj rfl rfl) rfl (by decide) rfl rfl) (by rfl) (Nat.le_of_ble_eq_true rfl) (Nat.le_of_ble_eq_true rfl) rfl (by rfl) ?_
        refine w_p (pc1 := 192) rfl rfl ?_
        refine w_p (pc1 := 193) (st1 := .int 2 :: _) rfl rfl ?_
        refine w_t (a := 219) (b := 196) rfl rfl rfl ?_
        refine w_p (pc1 := 220) rfl rfl ?_
        refine w_m0 (pc1 := 223) rfl rfl (h_gC rfl rfl rfl rfl) rfl ?_
        refine w_p (pc1 := 224) rfl rfl ?_
        refine w_m0 (pc1 := 227) (st1 := .int (nI (rTb u)) :: _) rfl rfl (x_gf (k := k0) rfl U.1 rfl) rfl ?_
        refine w_p (pc1 := 229) rfl rfl ?_
        refine w_p (pc1 := 230) rfl rfl ?_
        refine w_m0 (pc1 := 233) rfl rfl (h_gC rfl rfl rfl rfl) rfl ?_
        refine w_p (pc1 := 235) rfl rfl ?_
        refine w_p (pc1 := 236) (st1 := .int 1 :: _) rfl rfl ?_
        refine w_iadd (pc1 := 237) (u := nI (D)) (v := nI (1)) (z := nI (D + 1)) rfl (nK_add) rfl ?_
        refine w_m0 (pc1 := 238) (st1 := .ref (46 + (D + 1) + 100) :: _) rfl rfl (n_als (e := D + 1) rfl rfl (by decide) rfl (by omega) (KS_fr (KS_B B.1 fO (by omega)) (by omega))) rfl ?_
        refine w_je (pc1 := 241) (vs := [.ref 113, .int (nI (rTb u)), .int (nI (k)), .ref (46 + (D + 1) + 100)]) (rest := []) (st1 := []) (hld2) rfl rfl rfl (fun _ _ => rfl) rfl (by exact cl_v my_133 rfl rfl rfl (Nat.le_of_ble_eq_true rfl) rfl (MH_obj rfl rfl) rfl (by decide) rfl rfl) (by rfl) (Nat.le_of_ble_eq_true rfl) (Nat.le_of_ble_eq_true rfl) rfl (by rfl) ?_
        refine w_p (pc1 := 242) rfl rfl ?_
        refine w_p (pc1 := 243) rfl rfl ?_
        refine w_p (pc1 := 244) rfl rfl ?_
        refine w_p (pc1 := 246) rfl rfl ?_
        refine w_ji (pc1 := 249) (vs := [.ref 124, .ref (241 + k0), .int 3, .int (nI (D))]) (rest := []) (hset) rfl rfl rfl (fun _ _ => rfl) rfl (by exact cl_v my_141 rfl rfl rfl (Nat.le_of_ble_eq_true rfl) rfl (MH_obj rfl rfl) rfl (by decide) rfl rfl) (by rfl) (Nat.le_of_ble_eq_true rfl) (Nat.le_of_ble_eq_true rfl) rfl (fun v h m hq => ?_) (fun _ _ _ e => e.elim)
        obtain ⟨rfl, ⟨C8, ⟨y2, y3⟩, rfl⟩, rfl⟩ := hq
        have hcall := hS.2.1 (rTb u) x r.2 (setR 3 N (sDf S (rTb u)) r.2 (rCs u) (rOs u)) σ C8 t hR.1.2.1 (KS_B B2.1 y3 (by omega)) (KE_B y3 (by omega) B2.2.1) (bfK_B y3 (by omega) (bfK_B fF (by omega) hOb)) y2
        have f8 : frE D (D + 1) C C8 := frE_t fOE (frB_E y3 (by omega))
        refine w_p (pc1 := 250) rfl rfl ?_
        refine w_p (pc1 := 251) rfl rfl ?_
        refine w_m0 (pc1 := 254) (st1 := .int (nI (rTb u)) :: _) rfl rfl (x_gf (k := k0) rfl U.1 rfl) rfl ?_
        refine w_p (pc1 := 256) rfl rfl ?_
        refine w_p (pc1 := 258) rfl rfl ?_
        refine w_p (pc1 := 259) (st1 := .int 1 :: _) rfl rfl ?_
        refine w_iadd (pc1 := 260) (u := nI (D)) (v := nI (1)) (z := nI (D + 1)) rfl (nK_add) rfl ?_
        refine w_ji (pc1 := 263) (vs := [.ref 124, .int (nI (rTb u)), .int (x), .int (nI (D + 1))]) (rest := []) (hcall) rfl rfl rfl (fun _ _ => rfl) rfl (by exact cl_v my_143 rfl rfl rfl (Nat.le_of_ble_eq_true rfl) rfl (MH_obj rfl rfl) rfl (by decide) rfl rfl) (by rfl) (Nat.le_of_ble_eq_true rfl) (Nat.le_of_ble_eq_true rfl) rfl (fun v h1 d1 hq => ?_) (fun a h1 d1 hq => ?_)
        · obtain ⟨z1, hv, ⟨C9, t9, ⟨z2, z3, z4⟩, hh⟩, hn⟩ := hq
          subst hv; subst hh; subst hn
          have f9 : frE D (D + 1) C C9 := frE_t f8 (frE_u z3 (by omega) (by omega))
          refine w_iinc (pc1 := 266) (u := nI (pre.length)) (z := nI (pre.length + 1)) (al1 := [(8, .int (nI (pre.length + 1))), (10, .int (nI (k))), (9, .int (x)), (7, .int (nI (is.length))), (0, .ref 124), (1, .int (nI (i))), (2, .ref (241 + k0)), (3, .int 3), (4, .int 2), (5, .int (i0)), (6, .int (nI (D)))]) rfl rfl rfl nK_1 rfl rfl ?_
          refine w_p (pc1 := 88) rfl rfl ?_
          have f9i : ∀ j, C9.1 (61 + D) j = C.1 (61 + D) j := fun j => (z3.1 (61 + D) j (by omega) (by omega) (by omega)).trans (((y3.1 (61 + D) j).trans (fF.1 (61 + D) j)).trans (fO.1 (61 + D) j))
          refine Wd_al (al := [(8, .int (nI (pre.length + 1))), (7, .int (nI (is.length))), (0, .ref 124), (1, .int (nI (i))), (2, .ref (241 + k0)), (3, .int 3), (4, .int 2), (5, .int (i0)), (6, .int (nI (D)))]) (sba_p [0, 3, 4, 5, 6, 7, 8, 9, 10] rfl rfl) ?_
          rw [lop_n (show rf1 S (stp S n) i u 3 2 i0 O N x σ = ((stp S n 1 (rTb u) x r.2 (setR 3 N (sDf S (rTb u)) r.2 (rCs u) (rOs u)) σ).1, none) by rw [e1, ← z1])]
          exact ih C9 t9 _ h3 (KB_n B (by omega) f9 z4 z2) (RUK_k z4 U0) (fun j y hj => (f9i j).trans (hid j y hj)) (frE_t hf f9) (stk_t hst z4)
        · rcases hq with ⟨e9, C9, t9, ⟨z1, z2, z3, z4, z5⟩, ha, hh, hn⟩
          · subst ha; subst hh; subst hn
            refine Or.inl ⟨ch_new (by decide) rfl, ?_⟩
            rw [lop_s (show rf1 S (stp S n) i u 3 2 i0 O N x σ = ((stp S n 1 (rTb u) x r.2 (setR 3 N (sDf S (rTb u)) r.2 (rCs u) (rOs u)) σ).1, some e9) by rw [e1, ← z1])]
            exact ⟨e9, C9, t9, ⟨rfl, z2, z3, frE_t hf (frE_t f8 (frE_u z4 (by omega) (by omega))), stk_t hst z5⟩, rfl, rfl, rfl⟩
set_option maxRecDepth 100000 in
theorem lp_138b_4_2 {C0 : co_T} {t0 : ab_H} {is : List Int32} (ho : okSt S) (hS : STP L xs S n (D + 1)) (hD : D < 13) (hR : okR (sWd S) u) (hK : rKd u = 4) (hb1 : rTg u = some b) (hb6 : b < 6) (hi4 : is.length ≤ 40) : ∀ (suf pre : List Int32) (C : co_T) (t : ab_H) (σ : es_T), pre ++ suf = is → KB C t S σ D w2 (sWd S b) N O → RUK t k0 u → (∀ j x, is[j]? = some x → C.1 (61 + D) j = x) → frE D (D + 1) C0 C → stk t0 t → Wd L xs (4 * n + 12 + 1) y_138 (88, [(8, .int (nI (pre.length))), (7, .int (nI (is.length))), (0, .ref 124), (1, .int (nI (i))), (2, .ref (241 + k0)), (3, .int 4), (4, .int 2), (5, .int (i0)), (6, .int (nI (D)))], [], MH C t, sl) (PR C0 t0 (sWd S) D (D + 1) sl (lop (rf1 S (stp S n) i u 4 2 i0 O N) suf σ)) (XR C0 t0 D (D + 1) sl (lop (rf1 S (stp S n) i u 4 2 i0 O N) suf σ))
  | [], pre, C, t, σ, hp, B, U0, hid, hf, hst => by
    rw [List.append_nil] at hp
    have hl2 := congrArg List.length hp
    obtain ⟨kc, kt, fc, ft, vw, U, hck⟩ := id U0
    refine w_p (pc1 := 90) rfl rfl ?_
    refine w_p (pc1 := 92) rfl rfl ?_
    refine w_t (a := 269) (b := 95) (bN_ge_t (a := pre.length) (b := is.length) (by omega) (by omega) (by omega)) rfl rfl ?_
    refine w_r rfl rfl rfl (fun _ _ => rfl) rfl ?_
    exact ⟨rfl, rfl, ⟨C, t, ⟨B.2.1, hf, hst⟩, rfl⟩, rfl⟩
  | x :: suf, pre, C, t, σ, hp, B, U0, hid, hf, hst => by
    obtain ⟨h1, h2, h3⟩ := get_ap hp
    obtain ⟨kc, kt, fc, ft, vw, U, hck⟩ := id U0
    have h40 := (B.2.1.1 _ hR.1.2.1).2.2.1
    have hw6 := ho.1 b hb6
    have hx := hid _ _ h1
    have hrw := rowK (L := L) (xs := xs) (t := t) (d := 4 * n + 10) (sl := 0) (i := x) B.2.1.1 hR.1.2.1
    have ih := lp_138b_4_2 (C0 := C0) (t0 := t0) ho hS hD hR hK hb1 hb6 hi4 suf (pre ++ [x])
    rw [len_s] at ih
    have e0 : rf1 S (stp S n) i u 4 2 i0 O N x σ = match fdr x (σ.1 (rTb u)).1 0 with | none => (σ, none) | some (_, r) => (bif rfg u O r then (stp S n 1 (rTb u) x r.2 (setR 4 N (sDf S (rTb u)) r.2 (rCs u) (rOs u)) σ) else (σ, none)) := rfl
    cases hfd : fdr x (σ.1 (rTb u)).1 0 with
    | none =>
      rw [hfd] at hrw
      have e1 : rf1 S (stp S n) i u 4 2 i0 O N x σ = (σ, none) := by rw [e0, hfd]
      rw [lop_n e1]
      refine w_p (pc1 := 90) rfl rfl ?_
      refine w_p (pc1 := 92) rfl rfl ?_
      refine w_f (a := 269) (b := 95) (bN_ge_f (a := pre.length) (b := is.length) (by omega) (by omega) (by omega)) rfl rfl ?_
      refine w_p (pc1 := 96) rfl rfl ?_
      refine w_m0 (pc1 := 99) rfl rfl (h_gC rfl rfl rfl rfl) rfl ?_
      refine w_p (pc1 := 101) rfl rfl ?_
      refine w_m0 (pc1 := 102) (st1 := .ref (61 + D + 100) :: _) rfl rfl (n_als (e := D) rfl rfl (by decide) rfl (by omega) (KS_fo B.1 (by omega))) rfl ?_
      refine w_p (pc1 := 104) rfl rfl ?_
      refine w_m0 (pc1 := 105) (st1 := .int (x) :: _) rfl rfl (n_ile (k := 61 + D) (e := pre.length) rfl (skI (by omega)) rfl (by omega) (hx)) rfl ?_
      refine w_p (pc1 := 107) (al1 := [(9, .int (x)), (8, .int (nI (pre.length))), (7, .int (nI (is.length))), (0, .ref 124), (1, .int (nI (i))), (2, .ref (241 + k0)), (3, .int 4), (4, .int 2), (5, .int (i0)), (6, .int (nI (D)))]) rfl rfl ?_
      refine w_p (pc1 := 108) rfl rfl ?_
      refine w_m0 (pc1 := 111) rfl rfl (h_gC rfl rfl rfl rfl) rfl ?_
      refine w_p (pc1 := 112) rfl rfl ?_
      refine w_m0 (pc1 := 115) (st1 := .int (nI (rTb u)) :: _) rfl rfl (x_gf (k := k0) rfl U.1 rfl) rfl ?_
      refine w_p (pc1 := 117) rfl rfl ?_
      refine w_je (pc1 := 120) (vs := [.ref 113, .int (nI (rTb u)), .int (x)]) (rest := []) (st1 := [.int (-1)]) (hrw) rfl rfl rfl (fun _ _ => rfl) rfl (by exact cl_v my_132 rfl rfl rfl (Nat.le_of_ble_eq_true rfl) rfl (MH_obj rfl rfl) rfl (by decide) rfl rfl) (by rfl) (Nat.le_of_ble_eq_true rfl) (Nat.le_of_ble_eq_true rfl) rfl (by rfl) ?_
      refine w_p (pc1 := 122) (al1 := [(10, .int (-1)), (9, .int (x)), (8, .int (nI (pre.length))), (7, .int (nI (is.length))), (0, .ref 124), (1, .int (nI (i))), (2, .ref (241 + k0)), (3, .int 4), (4, .int 2), (5, .int (i0)), (6, .int (nI (D)))]) rfl rfl ?_
      refine w_p (pc1 := 124) rfl rfl ?_
      refine w_p (pc1 := 125) (st1 := .int (-1) :: _) rfl rfl ?_
      refine w_t (a := 263) (b := 128) rfl rfl rfl ?_
      refine w_iinc (pc1 := 266) (u := nI (pre.length)) (z := nI (pre.length + 1)) (al1 := [(8, .int (nI (pre.length + 1))), (10, .int (-1)), (9, .int (x)), (7, .int (nI (is.length))), (0, .ref 124), (1, .int (nI (i))), (2, .ref (241 + k0)), (3, .int 4), (4, .int 2), (5, .int (i0)), (6, .int (nI (D)))]) rfl rfl rfl nK_1 rfl rfl ?_
      refine w_p (pc1 := 88) rfl rfl ?_
      refine Wd_al (al := [(8, .int (nI (pre.length + 1))), (7, .int (nI (is.length))), (0, .ref 124), (1, .int (nI (i))), (2, .ref (241 + k0)), (3, .int 4), (4, .int 2), (5, .int (i0)), (6, .int (nI (D)))]) (sba_p [0, 3, 4, 5, 6, 7, 8, 9, 10] rfl rfl) ?_
      exact ih C t σ h3 B U0 hid hf hst
    | some q =>
      obtain ⟨k, r⟩ := q
      rw [hfd] at hrw
      obtain ⟨-, hr, hr1⟩ := fdr_s hfd
      rw [Nat.sub_zero] at hr
      have hkl := get_lt hr
      have hrf := m_139 (L := L) (xs := xs) (d := 4 * n + 10) (sl := 0) (kr := 31 + D) (l := []) (O := O) (skO (by omega)) B.2.1.1 U hR hK hb1 hw6 B.2.2.2.2 hr
      cases hy : rfg u O r with
      | false =>
        rw [hy] at hrf
        have e1 : rf1 S (stp S n) i u 4 2 i0 O N x σ = (σ, none) := by rw [e0, hfd]; show (bif rfg u O r then _ else _) = _; rw [hy]; rfl
        rw [lop_n e1]
        refine w_p (pc1 := 90) rfl rfl ?_
        refine w_p (pc1 := 92) rfl rfl ?_
        refine w_f (a := 269) (b := 95) (bN_ge_f (a := pre.length) (b := is.length) (by omega) (by omega) (by omega)) rfl rfl ?_
        refine w_p (pc1 := 96) rfl rfl ?_
        refine w_m0 (pc1 := 99) rfl rfl (h_gC rfl rfl rfl rfl) rfl ?_
        refine w_p (pc1 := 101) rfl rfl ?_
        refine w_m0 (pc1 := 102) (st1 := .ref (61 + D + 100) :: _) rfl rfl (n_als (e := D) rfl rfl (by decide) rfl (by omega) (KS_fo B.1 (by omega))) rfl ?_
        refine w_p (pc1 := 104) rfl rfl ?_
        refine w_m0 (pc1 := 105) (st1 := .int (x) :: _) rfl rfl (n_ile (k := 61 + D) (e := pre.length) rfl (skI (by omega)) rfl (by omega) (hx)) rfl ?_
        refine w_p (pc1 := 107) (al1 := [(9, .int (x)), (8, .int (nI (pre.length))), (7, .int (nI (is.length))), (0, .ref 124), (1, .int (nI (i))), (2, .ref (241 + k0)), (3, .int 4), (4, .int 2), (5, .int (i0)), (6, .int (nI (D)))]) rfl rfl ?_
        refine w_p (pc1 := 108) rfl rfl ?_
        refine w_m0 (pc1 := 111) rfl rfl (h_gC rfl rfl rfl rfl) rfl ?_
        refine w_p (pc1 := 112) rfl rfl ?_
        refine w_m0 (pc1 := 115) (st1 := .int (nI (rTb u)) :: _) rfl rfl (x_gf (k := k0) rfl U.1 rfl) rfl ?_
        refine w_p (pc1 := 117) rfl rfl ?_
        refine w_je (pc1 := 120) (vs := [.ref 113, .int (nI (rTb u)), .int (x)]) (rest := []) (st1 := [.int (nI (k))]) (hrw) rfl rfl rfl (fun _ _ => rfl) rfl (by exact cl_v my_132 rfl rfl rfl (Nat.le_of_ble_eq_true rfl) rfl (MH_obj rfl rfl) rfl (by decide) rfl rfl) (by rfl) (Nat.le_of_ble_eq_true rfl) (Nat.le_of_ble_eq_true rfl) rfl (by rfl) ?_
        refine w_p (pc1 := 122) (al1 := [(10, .int (nI (k))), (9, .int (x)), (8, .int (nI (pre.length))), (7, .int (nI (is.length))), (0, .ref 124), (1, .int (nI (i))), (2, .ref (241 + k0)), (3, .int 4), (4, .int 2), (5, .int (i0)), (6, .int (nI (D)))]) rfl rfl ?_
        refine w_p (pc1 := 124) rfl rfl ?_
        refine w_p (pc1 := 125) (st1 := .int (-1) :: _) rfl rfl ?_
        refine w_f (a := 263) (b := 128) (cb_eq_f (by exact nK_m1 (by omega))) rfl rfl ?_
        refine w_p (pc1 := 129) rfl rfl ?_
        refine w_p (pc1 := 130) rfl rfl ?_
        refine w_m0 (pc1 := 133) rfl rfl (h_gC rfl rfl rfl rfl) rfl ?_
        refine w_p (pc1 := 135) rfl rfl ?_
        refine w_p (pc1 := 136) rfl rfl ?_
        refine w_m0 (pc1 := 139) rfl rfl (h_gC rfl rfl rfl rfl) rfl ?_
        refine w_p (pc1 := 141) rfl rfl ?_
        refine w_m0 (pc1 := 142) (st1 := .ref (31 + D + 100) :: _) rfl rfl (n_als (e := D) rfl rfl (by decide) rfl (by omega) (KS_ol B.1 (by omega))) rfl ?_
        refine w_je (pc1 := 145) (vs := [.ref (241 + k0), .ref 113, .int (nI (k)), .ref (31 + D + 100)]) (rest := []) (st1 := [.int 0]) (hrf) rfl rfl rfl (fun _ _ => rfl) rfl (by exact cl_v my_139 rfl rfl rfl (Nat.le_of_ble_eq_true rfl) rfl (x_obj U.1) rfl (by decide) rfl rfl) (by rfl) (Nat.le_of_ble_eq_true rfl) (Nat.le_of_ble_eq_true rfl) rfl (by rfl) ?_
        refine w_t (a := 263) (b := 148) rfl rfl rfl ?_
        refine w_iinc (pc1 := 266) (u := nI (pre.length)) (z := nI (pre.length + 1)) (al1 := [(8, .int (nI (pre.length + 1))), (10, .int (nI (k))), (9, .int (x)), (7, .int (nI (is.length))), (0, .ref 124), (1, .int (nI (i))), (2, .ref (241 + k0)), (3, .int 4), (4, .int 2), (5, .int (i0)), (6, .int (nI (D)))]) rfl rfl rfl nK_1 rfl rfl ?_
        refine w_p (pc1 := 88) rfl rfl ?_
        refine Wd_al (al := [(8, .int (nI (pre.length + 1))), (7, .int (nI (is.length))), (0, .ref 124), (1, .int (nI (i))), (2, .ref (241 + k0)), (3, .int 4), (4, .int 2), (5, .int (i0)), (6, .int (nI (D)))]) (sba_p [0, 3, 4, 5, 6, 7, 8, 9, 10] rfl rfl) ?_
        exact ih C t σ h3 B U0 hid hf hst
      | true =>
        rw [hy] at hrf
        have fO : frB (31 + (D + 1)) C (ldC C (31 + (D + 1)) ((rTb u * 40 + k) * 6)) := ⟨fun _ _ => rfl, fun _ _ a => ld_o a, rfl⟩
        have hOb : bfK (ldC C (31 + (D + 1)) ((rTb u * 40 + k) * 6)) (31 + (D + 1)) (sWd S (rTb u)) r.2 := ld_v (by omega) B.2.1.1 hR.1.2.1 hr
        have hld := m_133 (L := L) (xs := xs) (t := t) (d := 4 * n + 11) (sl := 0) (kr := 31 + (D + 1)) (skO (by omega)) B.2.1.1 hR.1.2.1 hkl
        have fF : frB (46 + (D + 1)) (ldC C (31 + (D + 1)) ((rTb u * 40 + k) * 6)) (ldC (ldC C (31 + (D + 1)) ((rTb u * 40 + k) * 6)) (46 + (D + 1)) ((rTb u * 40 + k) * 6)) := ⟨fun _ _ => rfl, fun _ _ a => ld_o a, rfl⟩
        have hW1 := KE_B fO (by omega) B.2.1
        have hFb : bfK (ldC (ldC C (31 + (D + 1)) ((rTb u * 40 + k) * 6)) (46 + (D + 1)) ((rTb u * 40 + k) * 6)) (46 + (D + 1)) (sWd S (rTb u)) r.2 := ld_v (by omega) hW1.1 hR.1.2.1 hr
        have hld2 := m_133 (L := L) (xs := xs) (t := t) (d := 4 * n + 11) (sl := 0) (kr := 46 + (D + 1)) (skF (by omega)) hW1.1 hR.1.2.1 hkl
        have fOE : frE D (D + 1) C (ldC (ldC C (31 + (D + 1)) ((rTb u * 40 + k) * 6)) (46 + (D + 1)) ((rTb u * 40 + k) * 6)) := frE_t (frB_E fO (by omega)) (frB_E fF (by omega))
        have B2 : KB (ldC (ldC C (31 + (D + 1)) ((rTb u * 40 + k) * 6)) (46 + (D + 1)) ((rTb u * 40 + k) * 6)) t S σ D w2 (sWd S b) N O := KB_n B (by omega) fOE stk_r (KE_B fF (by omega) hW1)
        have hset := m_141_4 (L := L) (xs := xs) (d := 4 * n + 10) (sl := 0) (N := N) hD ho U hR hK hb1 B2.1 hFb
        have e1 : rf1 S (stp S n) i u 4 2 i0 O N x σ = stp S n 1 (rTb u) x r.2 (setR 4 N (sDf S (rTb u)) r.2 (rCs u) (rOs u)) σ := by rw [e0, hfd]; show (bif rfg u O r then _ else _) = _; rw [hy]; rfl
        refine w_p (pc1 := 90) rfl rfl ?_
        refine w_p (pc1 := 92) rfl rfl ?_
        refine w_f (a := 269) (b := 95) (bN_ge_f (a := pre.length) (b := is.length) (by omega) (by omega) (by omega)) rfl rfl ?_
        refine w_p (pc1 := 96) rfl rfl ?_
        refine w_m0 (pc1 := 99) rfl rfl (h_gC rfl rfl rfl rfl) rfl ?_
        refine w_p (pc1 := 101) rfl rfl ?_
        refine w_m0 (pc1 := 102) (st1 := .ref (61 + D + 100) :: _) rfl rfl (n_als (e := D) rfl rfl (by decide) rfl (by omega) (KS_fo B.1 (by omega))) rfl ?_
        refine w_p (pc1 := 104) rfl rfl ?_
        refine w_m0 (pc1 := 105) (st1 := .int (x) :: _) rfl rfl (n_ile (k := 61 + D) (e := pre.length) rfl (skI (by omega)) rfl (by omega) (hx)) rfl ?_
        refine w_p (pc1 := 107) (al1 := [(9, .int (x)), (8, .int (nI (pre.length))), (7, .int (nI (is.length))), (0, .ref 124), (1, .int (nI (i))), (2, .ref (241 + k0)), (3, .int 4), (4, .int 2), (5, .int (i0)), (6, .int (nI (D)))]) rfl rfl ?_
        refine w_p (pc1 := 108) rfl rfl ?_
        refine w_m0 (pc1 := 111) rfl rfl (h_gC rfl rfl rfl rfl) rfl ?_
        refine w_p (pc1 := 112) rfl rfl ?_
        refine w_m0 (pc1 := 115) (st1 := .int (nI (rTb u)) :: _) rfl rfl (x_gf (k := k0) rfl U.1 rfl) rfl ?_
        refine w_p (pc1 := 117) rfl rfl ?_
        refine w_je (pc1 := 120) (vs := [.ref 113, .int (nI (rTb u)), .int (x)]) (rest := []) (st1 := [.int (nI (k))]) (hrw) rfl rfl rfl (fun _ _ => rfl) rfl (by exact cl_v my_132 rfl rfl rfl (Nat.le_of_ble_eq_true rfl) rfl (MH_obj rfl rfl) rfl (by decide) rfl rfl) (by rfl) (Nat.le_of_ble_eq_true rfl) (Nat.le_of_ble_eq_true rfl) rfl (by rfl) ?_
        refine w_p (pc1 := 122) (al1 := [(10, .int (nI (k))), (9, .int (x)), (8, .int (nI (pre.length))), (7, .int (nI (is.length))), (0, .ref 124), (1, .int (nI (i))), (2, .ref (241 + k0)), (3, .int 4), (4, .int 2), (5, .int (i0)), (6, .int (nI (D)))]) rfl rfl ?_
        refine w_p (pc1 := 124) rfl rfl ?_
        refine w_p (pc1 := 125) (st1 := .int (-1) :: _) rfl rfl ?_
        refine w_f (a := 263) (b := 128) (cb_eq_f (by exact nK_m1 (by omega))) rfl rfl ?_
        refine w_p (pc1 := 129) rfl rfl ?_
        refine w_p (pc1 := 130) rfl rfl ?_
        refine w_m0 (pc1 := 133) rfl rfl (h_gC rfl rfl rfl rfl) rfl ?_
        refine w_p (pc1 := 135) rfl rfl ?_
        refine w_p (pc1 := 136) rfl rfl ?_
        refine w_m0 (pc1 := 139) rfl rfl (h_gC rfl rfl rfl rfl) rfl ?_
        refine w_p (pc1 := 141) rfl rfl ?_
        refine w_m0 (pc1 := 142) (st1 := .ref (31 + D + 100) :: _) rfl rfl (n_als (e := D) rfl rfl (by decide) rfl (by omega) (KS_ol B.1 (by omega))) rfl ?_
        refine w_je (pc1 := 145) (vs := [.ref (241 + k0), .ref 113, .int (nI (k)), .ref (31 + D + 100)]) (rest := []) (st1 := [.int 1]) (hrf) rfl rfl rfl (fun _ _ => rfl) rfl (by exact cl_v my_139 rfl rfl rfl (Nat.le_of_ble_eq_true rfl) rfl (x_obj U.1) rfl (by decide) rfl rfl) (by rfl) (Nat.le_of_ble_eq_true rfl) (Nat.le_of_ble_eq_true rfl) rfl (by rfl) ?_
        refine w_f (a := 263) (b := 148) rfl rfl rfl ?_
        refine w_p (pc1 := 149) rfl rfl ?_
        refine w_p (pc1 := 150) (st1 := .int 1 :: _) rfl rfl ?_
        refine w_t (a := 169) (b := 153) rfl rfl rfl ?_
        refine w_p (pc1 := 170) rfl rfl ?_
        refine w_m0 (pc1 := 173) rfl rfl (h_gC rfl rfl rfl rfl) rfl ?_
        refine w_p (pc1 := 174) rfl rfl ?_
        refine w_m0 (pc1 := 177) (st1 := .int (nI (rTb u)) :: _) rfl rfl (x_gf (k := k0) rfl U.1 rfl) rfl ?_
        refine w_p (pc1 := 179) rfl rfl ?_
        refine w_p (pc1 := 180) rfl rfl ?_
        refine w_m0 (pc1 := 183) rfl rfl (h_gC rfl rfl rfl rfl) rfl ?_
        refine w_p (pc1 := 185) rfl rfl ?_
        refine w_p (pc1 := 186) (st1 := .int 1 :: _) rfl rfl ?_
        refine w_iadd (pc1 := 187) (u := nI (D)) (v := nI (1)) (z := nI (D + 1)) rfl (nK_add) rfl ?_
        refine w_m0 (pc1 := 188) (st1 := .ref (31 + (D + 1) + 100) :: _) rfl rfl (n_als (e := D + 1) rfl rfl (by decide) rfl (by omega) (KS_ol B.1 (by omega))) rfl ?_
        refine w_je (pc1 := 191) (vs := [.ref 113, .int (nI (rTb u)), .int (nI (k)), .ref (31 + (D + 1) + 100)]) (rest := []) (st1 := []) (hld) rfl rfl rfl (fun _ _ => rfl) rfl (by exact cl_v my_133 rfl rfl rfl (Nat.le_of_ble_eq_true rfl) rfl (MH_obj rfl rfl) rfl (by decide) rfl rfl) (by rfl) (Nat.le_of_ble_eq_true rfl) (Nat.le_of_ble_eq_true rfl) rfl (by rfl) ?_
        refine w_p (pc1 := 192) rfl rfl ?_
        refine w_p (pc1 := 193) (st1 := .int 2 :: _) rfl rfl ?_
        refine w_t (a := 219) (b := 196) rfl rfl rfl ?_
        refine w_p (pc1 := 220) rfl rfl ?_
        refine w_m0 (pc1 := 223) rfl rfl (h_gC rfl rfl rfl rfl) rfl ?_
        refine w_p (pc1 := 224) rfl rfl ?_
        refine w_m0 (pc1 := 227) (st1 := .int (nI (rTb u)) :: _) rfl rfl (x_gf (k := k0) rfl U.1 rfl) rfl ?_
        refine w_p (pc1 := 229) rfl rfl ?_
        refine w_p (pc1 := 230) rfl rfl ?_
        refine w_m0 (pc1 := 233) rfl rfl (h_gC rfl rfl rfl rfl) rfl ?_
        refine w_p (pc1 := 235) rfl rfl ?_
        refine w_p (pc1 := 236) (st1 := .int 1 :: _) rfl rfl ?_
        refine w_iadd (pc1 := 237) (u := nI (D)) (v := nI (1)) (z := nI (D + 1)) rfl (nK_add) rfl ?_
        refine w_m0 (pc1 := 238) (st1 := .ref (46 + (D + 1) + 100) :: _) rfl rfl (n_als (e := D + 1) rfl rfl (by decide) rfl (by omega) (KS_fr (KS_B B.1 fO (by omega)) (by omega))) rfl ?_
        refine w_je (pc1 := 241) (vs := [.ref 113, .int (nI (rTb u)), .int (nI (k)), .ref (46 + (D + 1) + 100)]) (rest := []) (st1 := []) (hld2) rfl rfl rfl (fun _ _ => rfl) rfl (by exact cl_v my_133 rfl rfl rfl (Nat.le_of_ble_eq_true rfl) rfl (MH_obj rfl rfl) rfl (by decide) rfl rfl) (by rfl) (Nat.le_of_ble_eq_true rfl) (Nat.le_of_ble_eq_true rfl) rfl (by rfl) ?_
        refine w_p (pc1 := 242) rfl rfl ?_
        refine w_p (pc1 := 243) rfl rfl ?_
        refine w_p (pc1 := 244) rfl rfl ?_
        refine w_p (pc1 := 246) rfl rfl ?_
        refine w_ji (pc1 := 249) (vs := [.ref 124, .ref (241 + k0), .int 4, .int (nI (D))]) (rest := []) (hset) rfl rfl rfl (fun _ _ => rfl) rfl (by exact cl_v my_141 rfl rfl rfl (Nat.le_of_ble_eq_true rfl) rfl (MH_obj rfl rfl) rfl (by decide) rfl rfl) (by rfl) (Nat.le_of_ble_eq_true rfl) (Nat.le_of_ble_eq_true rfl) rfl (fun v h m hq => ?_) (fun _ _ _ e => e.elim)
        obtain ⟨rfl, ⟨C8, ⟨y2, y3⟩, rfl⟩, rfl⟩ := hq
        have hcall := hS.2.1 (rTb u) x r.2 (setR 4 N (sDf S (rTb u)) r.2 (rCs u) (rOs u)) σ C8 t hR.1.2.1 (KS_B B2.1 y3 (by omega)) (KE_B y3 (by omega) B2.2.1) (bfK_B y3 (by omega) (bfK_B fF (by omega) hOb)) y2
        have f8 : frE D (D + 1) C C8 := frE_t fOE (frB_E y3 (by omega))
        refine w_p (pc1 := 250) rfl rfl ?_
        refine w_p (pc1 := 251) rfl rfl ?_
        refine w_m0 (pc1 := 254) (st1 := .int (nI (rTb u)) :: _) rfl rfl (x_gf (k := k0) rfl U.1 rfl) rfl ?_
        refine w_p (pc1 := 256) rfl rfl ?_
        refine w_p (pc1 := 258) rfl rfl ?_
        refine w_p (pc1 := 259) (st1 := .int 1 :: _) rfl rfl ?_
        refine w_iadd (pc1 := 260) (u := nI (D)) (v := nI (1)) (z := nI (D + 1)) rfl (nK_add) rfl ?_
        refine w_ji (pc1 := 263) (vs := [.ref 124, .int (nI (rTb u)), .int (x), .int (nI (D + 1))]) (rest := []) (hcall) rfl rfl rfl (fun _ _ => rfl) rfl (by exact cl_v my_143 rfl rfl rfl (Nat.le_of_ble_eq_true rfl) rfl (MH_obj rfl rfl) rfl (by decide) rfl rfl) (by rfl) (Nat.le_of_ble_eq_true rfl) (Nat.le_of_ble_eq_true rfl) rfl (fun v h1 d1 hq => ?_) (fun a h1 d1 hq => ?_)
        · obtain ⟨z1, hv, ⟨C9, t9, ⟨z2, z3, z4⟩, hh⟩, hn⟩ := hq
          subst hv; subst hh; subst hn
          have f9 : frE D (D + 1) C C9 := frE_t f8 (frE_u z3 (by omega) (by omega))
          refine w_iinc (pc1 := 266) (u := nI (pre.length)) (z := nI (pre.length + 1)) (al1 := [(8, .int (nI (pre.length + 1))), (10, .int (nI (k))), (9, .int (x)), (7, .int (nI (is.length))), (0, .ref 124), (1, .int (nI (i))), (2, .ref (241 + k0)), (3, .int 4), (4, .int 2), (5, .int (i0)), (6, .int (nI (D)))]) rfl rfl rfl nK_1 rfl rfl ?_
          refine w_p (pc1 := 88) rfl rfl ?_
          have f9i : ∀ j, C9.1 (61 + D) j = C.1 (61 + D) j := fun j => (z3.1 (61 + D) j (by omega) (by omega) (by omega)).trans (((y3.1 (61 + D) j).trans (fF.1 (61 + D) j)).trans (fO.1 (61 + D) j))
          refine Wd_al (al := [(8, .int (nI (pre.length + 1))), (7, .int (nI (is.length))), (0, .ref 124), (1, .int (nI (i))), (2, .ref (241 + k0)), (3, .int 4), (4, .int 2), (5, .int (i0)), (6, .int (nI (D)))]) (sba_p [0, 3, 4, 5, 6, 7, 8, 9, 10] rfl rfl) ?_
          rw [lop_n (show rf1 S (stp S n) i u 4 2 i0 O N x σ = ((stp S n 1 (rTb u) x r.2 (setR 4 N (sDf S (rTb u)) r.2 (rCs u) (rOs u)) σ).1, none) by rw [e1, ← z1])]
          exact ih C9 t9 _ h3 (KB_n B (by omega) f9 z4 z2) (RUK_k z4 U0) (fun j y hj => (f9i j).trans (hid j y hj)) (frE_t hf f9) (stk_t hst z4)
        · rcases hq with ⟨e9, C9, t9, ⟨z1, z2, z3, z4, z5⟩, ha, hh, hn⟩
          · subst ha; subst hh; subst hn
            refine Or.inl ⟨ch_new (by decide) rfl, ?_⟩
            rw [lop_s (show rf1 S (stp S n) i u 4 2 i0 O N x σ = ((stp S n 1 (rTb u) x r.2 (setR 4 N (sDf S (rTb u)) r.2 (rCs u) (rOs u)) σ).1, some e9) by rw [e1, ← z1])]
            exact ⟨e9, C9, t9, ⟨rfl, z2, z3, frE_t hf (frE_t f8 (frE_u z4 (by omega) (by omega))), stk_t hst z5⟩, rfl, rfl, rfl⟩
set_option maxRecDepth 100000 in
theorem m_138_2 {act : Nat} (ho : okSt S) (hS : STP L xs S n (D + 1)) (hD : D < 13) (hR : okR (sWd S) u) (hK : rKd u = 4) (hb1 : rTg u = some b) (hb6 : b < 6) (ha : act ≠ 0) (ha4 : act ≤ 4) (B : KB C t S σ D w2 (sWd S b) N O) (U0 : RUK t k0 u) : Wd L xs (4 * n + 12 + 1) y_138 (0, [(0, .ref 124), (1, .int (nI (i))), (2, .ref (241 + k0)), (3, .int (nI (act))), (4, .int 2), (5, .int (i0)), (6, .int (nI (D)))], [], MH C t, sl) (PR C t (sWd S) D (D + 1) sl (lop (rf1 S (stp S n) i u act 2 i0 O N) (rids u O (σ.1 (rTb u)).1) σ)) (XR C t D (D + 1) sl (lop (rf1 S (stp S n) i u act 2 i0 O N) (rids u O (σ.1 (rTb u)).1) σ)) := by
  obtain ⟨kc, kt, fc, ft, vw, U, hck⟩ := id U0
  refine w_p (pc1 := 1) (st1 := .int 0 :: _) rfl rfl ?_
  refine w_p (pc1 := 3) (al1 := [(7, .int 0), (0, .ref 124), (1, .int (nI (i))), (2, .ref (241 + k0)), (3, .int (nI (act))), (4, .int 2), (5, .int (i0)), (6, .int (nI (D)))]) rfl rfl ?_
  refine w_p (pc1 := 4) (st1 := .int 0 :: _) rfl rfl ?_
  refine w_p (pc1 := 6) (al1 := [(8, .int 0), (7, .int 0), (0, .ref 124), (1, .int (nI (i))), (2, .ref (241 + k0)), (3, .int (nI (act))), (4, .int 2), (5, .int (i0)), (6, .int (nI (D)))]) rfl rfl ?_
  refine lp_138a (d := 4 * n + 9) (C0 := C) (σ := σ) (w2 := w2) (N := N) (O := O) ho hD ha ha4 hR hK hb1 hb6 U (σ.1 (rTb u)).1 [] [] C rfl B (Nat.le_refl _) (fun j x hj => by cases hj) frI_r (fun C1 q1 q2 q3 => ?_)
  rw [List.nil_append] at q1 q3 ⊢
  have fE : frE D (D + 1) C C1 := frI_E q2 (by omega)
  have B1 := KB_n B (by omega) fE stk_r (KE_I q2 (by omega) B.2.1)
  have h4 : act = 1 ∨ act = 2 ∨ act = 3 ∨ act = 4 := by omega
  rcases h4 with rfl | rfl | rfl | rfl
  · skip
    refine w_p (pc1 := 86) (st1 := .int 0 :: _) rfl rfl ?_
    refine w_p (pc1 := 88) (al1 := [(8, .int 0), (7, .int (nI ((rids u O (σ.1 (rTb u)).1).length))), (0, .ref 124), (1, .int (nI (i))), (2, .ref (241 + k0)), (3, .int 1), (4, .int 2), (5, .int (i0)), (6, .int (nI (D)))]) rfl rfl ?_
    exact lp_138b_1_2 ho hS hD hR hK hb1 hb6 q3 _ [] C1 t σ rfl B1 U0 q1 fE stk_r
  · skip
    refine w_p (pc1 := 86) (st1 := .int 0 :: _) rfl rfl ?_
    refine w_p (pc1 := 88) (al1 := [(8, .int 0), (7, .int (nI ((rids u O (σ.1 (rTb u)).1).length))), (0, .ref 124), (1, .int (nI (i))), (2, .ref (241 + k0)), (3, .int 2), (4, .int 2), (5, .int (i0)), (6, .int (nI (D)))]) rfl rfl ?_
    exact lp_138b_2_2 ho hS hD hR hK hb1 hb6 q3 _ [] C1 t σ rfl B1 U0 q1 fE stk_r
  · skip
    refine w_p (pc1 := 86) (st1 := .int 0 :: _) rfl rfl ?_
    refine w_p (pc1 := 88) (al1 := [(8, .int 0), (7, .int (nI ((rids u O (σ.1 (rTb u)).1).length))), (0, .ref 124), (1, .int (nI (i))), (2, .ref (241 + k0)), (3, .int 3), (4, .int 2), (5, .int (i0)), (6, .int (nI (D)))]) rfl rfl ?_
    exact lp_138b_3_2 ho hS hD hR hK hb1 hb6 q3 _ [] C1 t σ rfl B1 U0 q1 fE stk_r
  · skip
    refine w_p (pc1 := 86) (st1 := .int 0 :: _) rfl rfl ?_
    refine w_p (pc1 := 88) (al1 := [(8, .int 0), (7, .int (nI ((rids u O (σ.1 (rTb u)).1).length))), (0, .ref 124), (1, .int (nI (i))), (2, .ref (241 + k0)), (3, .int 4), (4, .int 2), (5, .int (i0)), (6, .int (nI (D)))]) rfl rfl ?_
    exact lp_138b_4_2 ho hS hD hR hK hb1 hb6 q3 _ [] C1 t σ rfl B1 U0 q1 fE stk_r
set_option maxRecDepth 100000 in
theorem lp_138b_1_1 {C0 : co_T} {t0 : ab_H} {is : List Int32} (ho : okSt S) (hS : STP L xs S n (D + 1)) (hD : D < 13) (hR : okR (sWd S) u) (hK : rKd u = 4) (hb1 : rTg u = some b) (hb6 : b < 6) (hi4 : is.length ≤ 40) : ∀ (suf pre : List Int32) (C : co_T) (t : ab_H) (σ : es_T), pre ++ suf = is → KB C t S σ D w2 (sWd S b) N O → RUK t k0 u → (∀ j x, is[j]? = some x → C.1 (61 + D) j = x) → frE D (D + 1) C0 C → stk t0 t → Wd L xs (4 * n + 12 + 1) y_138 (88, [(8, .int (nI (pre.length))), (7, .int (nI (is.length))), (0, .ref 124), (1, .int (nI (i))), (2, .ref (241 + k0)), (3, .int 1), (4, .int 1), (5, .int (i0)), (6, .int (nI (D)))], [], MH C t, sl) (PR C0 t0 (sWd S) D (D + 1) sl (lop (rf1 S (stp S n) i u 1 1 i0 O N) suf σ)) (XR C0 t0 D (D + 1) sl (lop (rf1 S (stp S n) i u 1 1 i0 O N) suf σ))
  | [], pre, C, t, σ, hp, B, U0, hid, hf, hst => by
    rw [List.append_nil] at hp
    have hl2 := congrArg List.length hp
    obtain ⟨kc, kt, fc, ft, vw, U, hck⟩ := id U0
    refine w_p (pc1 := 90) rfl rfl ?_
    refine w_p (pc1 := 92) rfl rfl ?_
    refine w_t (a := 269) (b := 95) (bN_ge_t (a := pre.length) (b := is.length) (by omega) (by omega) (by omega)) rfl rfl ?_
    refine w_r rfl rfl rfl (fun _ _ => rfl) rfl ?_
    exact ⟨rfl, rfl, ⟨C, t, ⟨B.2.1, hf, hst⟩, rfl⟩, rfl⟩
  | x :: suf, pre, C, t, σ, hp, B, U0, hid, hf, hst => by
    obtain ⟨h1, h2, h3⟩ := get_ap hp
    obtain ⟨kc, kt, fc, ft, vw, U, hck⟩ := id U0
    have h40 := (B.2.1.1 _ hR.1.2.1).2.2.1
    have hw6 := ho.1 b hb6
    have hx := hid _ _ h1
    have hrw := rowK (L := L) (xs := xs) (t := t) (d := 4 * n + 10) (sl := 0) (i := x) B.2.1.1 hR.1.2.1
    have ih := lp_138b_1_1 (C0 := C0) (t0 := t0) ho hS hD hR hK hb1 hb6 hi4 suf (pre ++ [x])
    rw [len_s] at ih
    have e0 : rf1 S (stp S n) i u 1 1 i0 O N x σ = match fdr x (σ.1 (rTb u)).1 0 with | none => (σ, none) | some (_, r) => (bif rfg u O r then ((σ, some (2, nI i, i0))) else (σ, none)) := rfl
    cases hfd : fdr x (σ.1 (rTb u)).1 0 with
    | none =>
      rw [hfd] at hrw
      have e1 : rf1 S (stp S n) i u 1 1 i0 O N x σ = (σ, none) := by rw [e0, hfd]
      rw [lop_n e1]
      refine w_p (pc1 := 90) rfl rfl ?_
      refine w_p (pc1 := 92) rfl rfl ?_
      refine w_f (a := 269) (b := 95) (bN_ge_f (a := pre.length) (b := is.length) (by omega) (by omega) (by omega)) rfl rfl ?_
      refine w_p (pc1 := 96) rfl rfl ?_
      refine w_m0 (pc1 := 99) rfl rfl (h_gC rfl rfl rfl rfl) rfl ?_
      refine w_p (pc1 := 101) rfl rfl ?_
      refine w_m0 (pc1 := 102) (st1 := .ref (61 + D + 100) :: _) rfl rfl (n_als (e := D) rfl rfl (by decide) rfl (by omega) (KS_fo B.1 (by omega))) rfl ?_
      refine w_p (pc1 := 104) rfl rfl ?_
      refine w_m0 (pc1 := 105) (st1 := .int (x) :: _) rfl rfl (n_ile (k := 61 + D) (e := pre.length) rfl (skI (by omega)) rfl (by omega) (hx)) rfl ?_
      refine w_p (pc1 := 107) (al1 := [(9, .int (x)), (8, .int (nI (pre.length))), (7, .int (nI (is.length))), (0, .ref 124), (1, .int (nI (i))), (2, .ref (241 + k0)), (3, .int 1), (4, .int 1), (5, .int (i0)), (6, .int (nI (D)))]) rfl rfl ?_
      refine w_p (pc1 := 108) rfl rfl ?_
      refine w_m0 (pc1 := 111) rfl rfl (h_gC rfl rfl rfl rfl) rfl ?_
      refine w_p (pc1 := 112) rfl rfl ?_
      refine w_m0 (pc1 := 115) (st1 := .int (nI (rTb u)) :: _) rfl rfl (x_gf (k := k0) rfl U.1 rfl) rfl ?_
      refine w_p (pc1 := 117) rfl rfl ?_
      refine w_je (pc1 := 120) (vs := [.ref 113, .int (nI (rTb u)), .int (x)]) (rest := []) (st1 := [.int (-1)]) (hrw) rfl rfl rfl (fun _ _ => rfl) rfl (by exact cl_v my_132 rfl rfl rfl (Nat.le_of_ble_eq_true rfl) rfl (MH_obj rfl rfl) rfl (by decide) rfl rfl) (by rfl) (Nat.le_of_ble_eq_true rfl) (Nat.le_of_ble_eq_true rfl) rfl (by rfl) ?_
      refine w_p (pc1 := 122) (al1 := [(10, .int (-1)), (9, .int (x)), (8, .int (nI (pre.length))), (7, .int (nI (is.length))), (0, .ref 124), (1, .int (nI (i))), (2, .ref (241 + k0)), (3, .int 1), (4, .int 1), (5, .int (i0)), (6, .int (nI (D)))]) rfl rfl ?_
      refine w_p (pc1 := 124) rfl rfl ?_
      refine w_p (pc1 := 125) (st1 := .int (-1) :: _) rfl rfl ?_
      refine w_t (a := 263) (b := 128) rfl rfl rfl ?_
      refine w_iinc (pc1 := 266) (u := nI (pre.length)) (z := nI (pre.length + 1)) (al1 := [(8, .int (nI (pre.length + 1))), (10, .int (-1)), (9, .int (x)), (7, .int (nI (is.length))), (0, .ref 124), (1, .int (nI (i))), (2, .ref (241 + k0)), (3, .int 1), (4, .int 1), (5, .int (i0)), (6, .int (nI (D)))]) rfl rfl rfl nK_1 rfl rfl ?_
      refine w_p (pc1 := 88) rfl rfl ?_
      refine Wd_al (al := [(8, .int (nI (pre.length + 1))), (7, .int (nI (is.length))), (0, .ref 124), (1, .int (nI (i))), (2, .ref (241 + k0)), (3, .int 1), (4, .int 1), (5, .int (i0)), (6, .int (nI (D)))]) (sba_p [0, 3, 4, 5, 6, 7, 8, 9, 10] rfl rfl) ?_
      exact ih C t σ h3 B U0 hid hf hst
    | some q =>
      obtain ⟨k, r⟩ := q
      rw [hfd] at hrw
      obtain ⟨-, hr, hr1⟩ := fdr_s hfd
      rw [Nat.sub_zero] at hr
      have hkl := get_lt hr
      have hrf := m_139 (L := L) (xs := xs) (d := 4 * n + 10) (sl := 0) (kr := 31 + D) (l := []) (O := O) (skO (by omega)) B.2.1.1 U hR hK hb1 hw6 B.2.2.2.2 hr
      cases hy : rfg u O r with
      | false =>
        rw [hy] at hrf
        have e1 : rf1 S (stp S n) i u 1 1 i0 O N x σ = (σ, none) := by rw [e0, hfd]; show (bif rfg u O r then _ else _) = _; rw [hy]; rfl
        rw [lop_n e1]
        refine w_p (pc1 := 90) rfl rfl ?_
        refine w_p (pc1 := 92) rfl rfl ?_
        refine w_f (a := 269) (b := 95) (bN_ge_f (a := pre.length) (b := is.length) (by omega) (by omega) (by omega)) rfl rfl ?_
        refine w_p (pc1 := 96) rfl rfl ?_
        refine w_m0 (pc1 := 99) rfl rfl (h_gC rfl rfl rfl rfl) rfl ?_
        refine w_p (pc1 := 101) rfl rfl ?_
        refine w_m0 (pc1 := 102) (st1 := .ref (61 + D + 100) :: _) rfl rfl (n_als (e := D) rfl rfl (by decide) rfl (by omega) (KS_fo B.1 (by omega))) rfl ?_
        refine w_p (pc1 := 104) rfl rfl ?_
        refine w_m0 (pc1 := 105) (st1 := .int (x) :: _) rfl rfl (n_ile (k := 61 + D) (e := pre.length) rfl (skI (by omega)) rfl (by omega) (hx)) rfl ?_
        refine w_p (pc1 := 107) (al1 := [(9, .int (x)), (8, .int (nI (pre.length))), (7, .int (nI (is.length))), (0, .ref 124), (1, .int (nI (i))), (2, .ref (241 + k0)), (3, .int 1), (4, .int 1), (5, .int (i0)), (6, .int (nI (D)))]) rfl rfl ?_
        refine w_p (pc1 := 108) rfl rfl ?_
        refine w_m0 (pc1 := 111) rfl rfl (h_gC rfl rfl rfl rfl) rfl ?_
        refine w_p (pc1 := 112) rfl rfl ?_
        refine w_m0 (pc1 := 115) (st1 := .int (nI (rTb u)) :: _) rfl rfl (x_gf (k := k0) rfl U.1 rfl) rfl ?_
        refine w_p (pc1 := 117) rfl rfl ?_
        refine w_je (pc1 := 120) (vs := [.ref 113, .int (nI (rTb u)), .int (x)]) (rest := []) (st1 := [.int (nI (k))]) (hrw) rfl rfl rfl (fun _ _ => rfl) rfl (by exact cl_v my_132 rfl rfl rfl (Nat.le_of_ble_eq_true rfl) rfl (MH_obj rfl rfl) rfl (by decide) rfl rfl) (by rfl) (Nat.le_of_ble_eq_true rfl) (Nat.le_of_ble_eq_true rfl) rfl (by rfl) ?_
        refine w_p (pc1 := 122) (al1 := [(10, .int (nI (k))), (9, .int (x)), (8, .int (nI (pre.length))), (7, .int (nI (is.length))), (0, .ref 124), (1, .int (nI (i))), (2, .ref (241 + k0)), (3, .int 1), (4, .int 1), (5, .int (i0)), (6, .int (nI (D)))]) rfl rfl ?_
        refine w_p (pc1 := 124) rfl rfl ?_
        refine w_p (pc1 := 125) (st1 := .int (-1) :: _) rfl rfl ?_
        refine w_f (a := 263) (b := 128) (cb_eq_f (by exact nK_m1 (by omega))) rfl rfl ?_
        refine w_p (pc1 := 129) rfl rfl ?_
        refine w_p (pc1 := 130) rfl rfl ?_
        refine w_m0 (pc1 := 133) rfl rfl (h_gC rfl rfl rfl rfl) rfl ?_
        refine w_p (pc1 := 135) rfl rfl ?_
        refine w_p (pc1 := 136) rfl rfl ?_
        refine w_m0 (pc1 := 139) rfl rfl (h_gC rfl rfl rfl rfl) rfl ?_
        refine w_p (pc1 := 141) rfl rfl ?_
        refine w_m0 (pc1 := 142) (st1 := .ref (31 + D + 100) :: _) rfl rfl (n_als (e := D) rfl rfl (by decide) rfl (by omega) (KS_ol B.1 (by omega))) rfl ?_
        refine w_je (pc1 := 145) (vs := [.ref (241 + k0), .ref 113, .int (nI (k)), .ref (31 + D + 100)]) (rest := []) (st1 := [.int 0]) (hrf) rfl rfl rfl (fun _ _ => rfl) rfl (by exact cl_v my_139 rfl rfl rfl (Nat.le_of_ble_eq_true rfl) rfl (x_obj U.1) rfl (by decide) rfl rfl) (by rfl) (Nat.le_of_ble_eq_true rfl) (Nat.le_of_ble_eq_true rfl) rfl (by rfl) ?_
        refine w_t (a := 263) (b := 148) rfl rfl rfl ?_
        refine w_iinc (pc1 := 266) (u := nI (pre.length)) (z := nI (pre.length + 1)) (al1 := [(8, .int (nI (pre.length + 1))), (10, .int (nI (k))), (9, .int (x)), (7, .int (nI (is.length))), (0, .ref 124), (1, .int (nI (i))), (2, .ref (241 + k0)), (3, .int 1), (4, .int 1), (5, .int (i0)), (6, .int (nI (D)))]) rfl rfl rfl nK_1 rfl rfl ?_
        refine w_p (pc1 := 88) rfl rfl ?_
        refine Wd_al (al := [(8, .int (nI (pre.length + 1))), (7, .int (nI (is.length))), (0, .ref 124), (1, .int (nI (i))), (2, .ref (241 + k0)), (3, .int 1), (4, .int 1), (5, .int (i0)), (6, .int (nI (D)))]) (sba_p [0, 3, 4, 5, 6, 7, 8, 9, 10] rfl rfl) ?_
        exact ih C t σ h3 B U0 hid hf hst
      | true =>
        rw [hy] at hrf
        have e1 : rf1 S (stp S n) i u 1 1 i0 O N x σ = (σ, some (2, nI i, i0)) := by rw [e0, hfd]; show (bif rfg u O r then _ else _) = _; rw [hy]; rfl
        rw [lop_s e1]
        refine w_p (pc1 := 90) rfl rfl ?_
        refine w_p (pc1 := 92) rfl rfl ?_
        refine w_f (a := 269) (b := 95) (bN_ge_f (a := pre.length) (b := is.length) (by omega) (by omega) (by omega)) rfl rfl ?_
        refine w_p (pc1 := 96) rfl rfl ?_
        refine w_m0 (pc1 := 99) rfl rfl (h_gC rfl rfl rfl rfl) rfl ?_
        refine w_p (pc1 := 101) rfl rfl ?_
        refine w_m0 (pc1 := 102) (st1 := .ref (61 + D + 100) :: _) rfl rfl (n_als (e := D) rfl rfl (by decide) rfl (by omega) (KS_fo B.1 (by omega))) rfl ?_
        refine w_p (pc1 := 104) rfl rfl ?_
        refine w_m0 (pc1 := 105) (st1 := .int (x) :: _) rfl rfl (n_ile (k := 61 + D) (e := pre.length) rfl (skI (by omega)) rfl (by omega) (hx)) rfl ?_
        refine w_p (pc1 := 107) (al1 := [(9, .int (x)), (8, .int (nI (pre.length))), (7, .int (nI (is.length))), (0, .ref 124), (1, .int (nI (i))), (2, .ref (241 + k0)), (3, .int 1), (4, .int 1), (5, .int (i0)), (6, .int (nI (D)))]) rfl rfl ?_
        refine w_p (pc1 := 108) rfl rfl ?_
        refine w_m0 (pc1 := 111) rfl rfl (h_gC rfl rfl rfl rfl) rfl ?_
        refine w_p (pc1 := 112) rfl rfl ?_
        refine w_m0 (pc1 := 115) (st1 := .int (nI (rTb u)) :: _) rfl rfl (x_gf (k := k0) rfl U.1 rfl) rfl ?_
        refine w_p (pc1 := 117) rfl rfl ?_
        refine w_je (pc1 := 120) (vs := [.ref 113, .int (nI (rTb u)), .int (x)]) (rest := []) (st1 := [.int (nI (k))]) (hrw) rfl rfl rfl (fun _ _ => rfl) rfl (by exact cl_v my_132 rfl rfl rfl (Nat.le_of_ble_eq_true rfl) rfl (MH_obj rfl rfl) rfl (by decide) rfl rfl) (by rfl) (Nat.le_of_ble_eq_true rfl) (Nat.le_of_ble_eq_true rfl) rfl (by rfl) ?_
        refine w_p (pc1 := 122) (al1 := [(10, .int (nI (k))), (9, .int (x)), (8, .int (nI (pre.length))), (7, .int (nI (is.length))), (0, .ref 124), (1, .int (nI (i))), (2, .ref (241 + k0)), (3, .int 1), (4, .int 1), (5, .int (i0)), (6, .int (nI (D)))]) rfl rfl ?_
        refine w_p (pc1 := 124) rfl rfl ?_
        refine w_p (pc1 := 125) (st1 := .int (-1) :: _) rfl rfl ?_
        refine w_f (a := 263) (b := 128) (cb_eq_f (by exact nK_m1 (by omega))) rfl rfl ?_
        refine w_p (pc1 := 129) rfl rfl ?_
        refine w_p (pc1 := 130) rfl rfl ?_
        refine w_m0 (pc1 := 133) rfl rfl (h_gC rfl rfl rfl rfl) rfl ?_
        refine w_p (pc1 := 135) rfl rfl ?_
        refine w_p (pc1 := 136) rfl rfl ?_
        refine w_m0 (pc1 := 139) rfl rfl (h_gC rfl rfl rfl rfl) rfl ?_
        refine w_p (pc1 := 141) rfl rfl ?_
        refine w_m0 (pc1 := 142) (st1 := .ref (31 + D + 100) :: _) rfl rfl (n_als (e := D) rfl rfl (by decide) rfl (by omega) (KS_ol B.1 (by omega))) rfl ?_
        refine w_je (pc1 := 145) (vs := [.ref (241 + k0), .ref 113, .int (nI (k)), .ref (31 + D + 100)]) (rest := []) (st1 := [.int 1]) (hrf) rfl rfl rfl (fun _ _ => rfl) rfl (by exact cl_v my_139 rfl rfl rfl (Nat.le_of_ble_eq_true rfl) rfl (x_obj U.1) rfl (by decide) rfl rfl) (by rfl) (Nat.le_of_ble_eq_true rfl) (Nat.le_of_ble_eq_true rfl) rfl (by rfl) ?_
        refine w_f (a := 263) (b := 148) rfl rfl rfl ?_
        refine w_p (pc1 := 149) rfl rfl ?_
        refine w_p (pc1 := 150) (st1 := .int 1 :: _) rfl rfl ?_
        refine w_f (a := 169) (b := 153) rfl rfl rfl ?_
        refine w_p (pc1 := 154) rfl rfl ?_
        refine w_p (pc1 := 155) rfl rfl ?_
        refine w_m0 (pc1 := 158) rfl rfl (h_pI (j := 9) rfl rfl rfl rfl rfl rfl rfl ⟨rfl, rfl⟩ rfl) rfl ?_
        refine w_p (pc1 := 159) rfl rfl ?_
        refine w_p (pc1 := 161) rfl rfl ?_
        refine w_m0 (pc1 := 164) rfl rfl (h_pI (j := 10) rfl rfl rfl rfl rfl rfl rfl ⟨rfl, rfl⟩ rfl) rfl ?_
        refine w_p (pc1 := 165) rfl rfl ?_
        refine w_p (pc1 := 166) (st1 := .int 2 :: _) rfl rfl ?_
        refine w_ji (pc1 := 169) (vs := [.ref 124, .int 2]) (rest := []) (m_119 (d := 4 * n + 6) (sl := 0)) rfl rfl rfl (fun _ _ => rfl) rfl (by exact cl_v my_119 rfl rfl rfl (Nat.le_of_ble_eq_true rfl) rfl (MH_obj rfl rfl) rfl (by decide) rfl rfl) (by rfl) (Nat.le_of_ble_eq_true rfl) (Nat.le_of_ble_eq_true rfl) rfl (fun v h1 d1 hq => ?_) (fun a h1 d1 hq => ?_)
        · exact hq.elim
        · rcases hq with ⟨ha, hh, hn⟩
          · subst ha; subst hh; subst hn
            refine Or.inl ⟨ch_new (by decide) rfl, ?_⟩
            exact ⟨(2, nI i, i0), sI (sI (sI C 24 9 (nI i)) 24 10 i0) 24 6 2, t, ⟨rfl, B.2.1.2.2, ⟨rfl, fun _ => ⟨rfl, rfl⟩, fun h => absurd (show (2 : Nat) = 3 from h) (by decide)⟩, frE_t hf (frE_t (frE_j (by decide)) (frE_t (frE_j (by decide)) frE_s)), hst⟩, rfl, rfl, rfl⟩
set_option maxRecDepth 100000 in
theorem lp_138b_2_1 {C0 : co_T} {t0 : ab_H} {is : List Int32} (ho : okSt S) (hS : STP L xs S n (D + 1)) (hD : D < 13) (hR : okR (sWd S) u) (hK : rKd u = 4) (hb1 : rTg u = some b) (hb6 : b < 6) (hi4 : is.length ≤ 40) (hw2 : sWd S b ≤ w2) : ∀ (suf pre : List Int32) (C : co_T) (t : ab_H) (σ : es_T), pre ++ suf = is → KB C t S σ D w2 (sWd S b) N O → RUK t k0 u → (∀ j x, is[j]? = some x → C.1 (61 + D) j = x) → frE D (D + 1) C0 C → stk t0 t → Wd L xs (4 * n + 12 + 1) y_138 (88, [(8, .int (nI (pre.length))), (7, .int (nI (is.length))), (0, .ref 124), (1, .int (nI (i))), (2, .ref (241 + k0)), (3, .int 2), (4, .int 1), (5, .int (i0)), (6, .int (nI (D)))], [], MH C t, sl) (PR C0 t0 (sWd S) D (D + 1) sl (lop (rf1 S (stp S n) i u 2 1 i0 O N) suf σ)) (XR C0 t0 D (D + 1) sl (lop (rf1 S (stp S n) i u 2 1 i0 O N) suf σ))
  | [], pre, C, t, σ, hp, B, U0, hid, hf, hst => by
    rw [List.append_nil] at hp
    have hl2 := congrArg List.length hp
    obtain ⟨kc, kt, fc, ft, vw, U, hck⟩ := id U0
    refine w_p (pc1 := 90) rfl rfl ?_
    refine w_p (pc1 := 92) rfl rfl ?_
    refine w_t (a := 269) (b := 95) (bN_ge_t (a := pre.length) (b := is.length) (by omega) (by omega) (by omega)) rfl rfl ?_
    refine w_r rfl rfl rfl (fun _ _ => rfl) rfl ?_
    exact ⟨rfl, rfl, ⟨C, t, ⟨B.2.1, hf, hst⟩, rfl⟩, rfl⟩
  | x :: suf, pre, C, t, σ, hp, B, U0, hid, hf, hst => by
    obtain ⟨h1, h2, h3⟩ := get_ap hp
    obtain ⟨kc, kt, fc, ft, vw, U, hck⟩ := id U0
    have h40 := (B.2.1.1 _ hR.1.2.1).2.2.1
    have hw6 := ho.1 b hb6
    have hx := hid _ _ h1
    have hrw := rowK (L := L) (xs := xs) (t := t) (d := 4 * n + 10) (sl := 0) (i := x) B.2.1.1 hR.1.2.1
    have ih := lp_138b_2_1 (C0 := C0) (t0 := t0) ho hS hD hR hK hb1 hb6 hi4 hw2 suf (pre ++ [x])
    rw [len_s] at ih
    have e0 : rf1 S (stp S n) i u 2 1 i0 O N x σ = match fdr x (σ.1 (rTb u)).1 0 with | none => (σ, none) | some (_, r) => (bif rfg u O r then (stp S n 1 (rTb u) x r.2 (setR 2 N (sDf S (rTb u)) r.2 (rCs u) (rOs u)) σ) else (σ, none)) := rfl
    cases hfd : fdr x (σ.1 (rTb u)).1 0 with
    | none =>
      rw [hfd] at hrw
      have e1 : rf1 S (stp S n) i u 2 1 i0 O N x σ = (σ, none) := by rw [e0, hfd]
      rw [lop_n e1]
      refine w_p (pc1 := 90) rfl rfl ?_
      refine w_p (pc1 := 92) rfl rfl ?_
      refine w_f (a := 269) (b := 95) (bN_ge_f (a := pre.length) (b := is.length) (by omega) (by omega) (by omega)) rfl rfl ?_
      refine w_p (pc1 := 96) rfl rfl ?_
      refine w_m0 (pc1 := 99) rfl rfl (h_gC rfl rfl rfl rfl) rfl ?_
      refine w_p (pc1 := 101) rfl rfl ?_
      refine w_m0 (pc1 := 102) (st1 := .ref (61 + D + 100) :: _) rfl rfl (n_als (e := D) rfl rfl (by decide) rfl (by omega) (KS_fo B.1 (by omega))) rfl ?_
      refine w_p (pc1 := 104) rfl rfl ?_
      refine w_m0 (pc1 := 105) (st1 := .int (x) :: _) rfl rfl (n_ile (k := 61 + D) (e := pre.length) rfl (skI (by omega)) rfl (by omega) (hx)) rfl ?_
      refine w_p (pc1 := 107) (al1 := [(9, .int (x)), (8, .int (nI (pre.length))), (7, .int (nI (is.length))), (0, .ref 124), (1, .int (nI (i))), (2, .ref (241 + k0)), (3, .int 2), (4, .int 1), (5, .int (i0)), (6, .int (nI (D)))]) rfl rfl ?_
      refine w_p (pc1 := 108) rfl rfl ?_
      refine w_m0 (pc1 := 111) rfl rfl (h_gC rfl rfl rfl rfl) rfl ?_
      refine w_p (pc1 := 112) rfl rfl ?_
      refine w_m0 (pc1 := 115) (st1 := .int (nI (rTb u)) :: _) rfl rfl (x_gf (k := k0) rfl U.1 rfl) rfl ?_
      refine w_p (pc1 := 117) rfl rfl ?_
      refine w_je (pc1 := 120) (vs := [.ref 113, .int (nI (rTb u)), .int (x)]) (rest := []) (st1 := [.int (-1)]) (hrw) rfl rfl rfl (fun _ _ => rfl) rfl (by exact cl_v my_132 rfl rfl rfl (Nat.le_of_ble_eq_true rfl) rfl (MH_obj rfl rfl) rfl (by decide) rfl rfl) (by rfl) (Nat.le_of_ble_eq_true rfl) (Nat.le_of_ble_eq_true rfl) rfl (by rfl) ?_
      refine w_p (pc1 := 122) (al1 := [(10, .int (-1)), (9, .int (x)), (8, .int (nI (pre.length))), (7, .int (nI (is.length))), (0, .ref 124), (1, .int (nI (i))), (2, .ref (241 + k0)), (3, .int 2), (4, .int 1), (5, .int (i0)), (6, .int (nI (D)))]) rfl rfl ?_
      refine w_p (pc1 := 124) rfl rfl ?_
      refine w_p (pc1 := 125) (st1 := .int (-1) :: _) rfl rfl ?_
      refine w_t (a := 263) (b := 128) rfl rfl rfl ?_
      refine w_iinc (pc1 := 266) (u := nI (pre.length)) (z := nI (pre.length + 1)) (al1 := [(8, .int (nI (pre.length + 1))), (10, .int (-1)), (9, .int (x)), (7, .int (nI (is.length))), (0, .ref 124), (1, .int (nI (i))), (2, .ref (241 + k0)), (3, .int 2), (4, .int 1), (5, .int (i0)), (6, .int (nI (D)))]) rfl rfl rfl nK_1 rfl rfl ?_
      refine w_p (pc1 := 88) rfl rfl ?_
      refine Wd_al (al := [(8, .int (nI (pre.length + 1))), (7, .int (nI (is.length))), (0, .ref 124), (1, .int (nI (i))), (2, .ref (241 + k0)), (3, .int 2), (4, .int 1), (5, .int (i0)), (6, .int (nI (D)))]) (sba_p [0, 3, 4, 5, 6, 7, 8, 9, 10] rfl rfl) ?_
      exact ih C t σ h3 B U0 hid hf hst
    | some q =>
      obtain ⟨k, r⟩ := q
      rw [hfd] at hrw
      obtain ⟨-, hr, hr1⟩ := fdr_s hfd
      rw [Nat.sub_zero] at hr
      have hkl := get_lt hr
      have hrf := m_139 (L := L) (xs := xs) (d := 4 * n + 10) (sl := 0) (kr := 31 + D) (l := []) (O := O) (skO (by omega)) B.2.1.1 U hR hK hb1 hw6 B.2.2.2.2 hr
      cases hy : rfg u O r with
      | false =>
        rw [hy] at hrf
        have e1 : rf1 S (stp S n) i u 2 1 i0 O N x σ = (σ, none) := by rw [e0, hfd]; show (bif rfg u O r then _ else _) = _; rw [hy]; rfl
        rw [lop_n e1]
        refine w_p (pc1 := 90) rfl rfl ?_
        refine w_p (pc1 := 92) rfl rfl ?_
        refine w_f (a := 269) (b := 95) (bN_ge_f (a := pre.length) (b := is.length) (by omega) (by omega) (by omega)) rfl rfl ?_
        refine w_p (pc1 := 96) rfl rfl ?_
        refine w_m0 (pc1 := 99) rfl rfl (h_gC rfl rfl rfl rfl) rfl ?_
        refine w_p (pc1 := 101) rfl rfl ?_
        refine w_m0 (pc1 := 102) (st1 := .ref (61 + D + 100) :: _) rfl rfl (n_als (e := D) rfl rfl (by decide) rfl (by omega) (KS_fo B.1 (by omega))) rfl ?_
        refine w_p (pc1 := 104) rfl rfl ?_
        refine w_m0 (pc1 := 105) (st1 := .int (x) :: _) rfl rfl (n_ile (k := 61 + D) (e := pre.length) rfl (skI (by omega)) rfl (by omega) (hx)) rfl ?_
        refine w_p (pc1 := 107) (al1 := [(9, .int (x)), (8, .int (nI (pre.length))), (7, .int (nI (is.length))), (0, .ref 124), (1, .int (nI (i))), (2, .ref (241 + k0)), (3, .int 2), (4, .int 1), (5, .int (i0)), (6, .int (nI (D)))]) rfl rfl ?_
        refine w_p (pc1 := 108) rfl rfl ?_
        refine w_m0 (pc1 := 111) rfl rfl (h_gC rfl rfl rfl rfl) rfl ?_
        refine w_p (pc1 := 112) rfl rfl ?_
        refine w_m0 (pc1 := 115) (st1 := .int (nI (rTb u)) :: _) rfl rfl (x_gf (k := k0) rfl U.1 rfl) rfl ?_
        refine w_p (pc1 := 117) rfl rfl ?_
        refine w_je (pc1 := 120) (vs := [.ref 113, .int (nI (rTb u)), .int (x)]) (rest := []) (st1 := [.int (nI (k))]) (hrw) rfl rfl rfl (fun _ _ => rfl) rfl (by exact cl_v my_132 rfl rfl rfl (Nat.le_of_ble_eq_true rfl) rfl (MH_obj rfl rfl) rfl (by decide) rfl rfl) (by rfl) (Nat.le_of_ble_eq_true rfl) (Nat.le_of_ble_eq_true rfl) rfl (by rfl) ?_
        refine w_p (pc1 := 122) (al1 := [(10, .int (nI (k))), (9, .int (x)), (8, .int (nI (pre.length))), (7, .int (nI (is.length))), (0, .ref 124), (1, .int (nI (i))), (2, .ref (241 + k0)), (3, .int 2), (4, .int 1), (5, .int (i0)), (6, .int (nI (D)))]) rfl rfl ?_
        refine w_p (pc1 := 124) rfl rfl ?_
        refine w_p (pc1 := 125) (st1 := .int (-1) :: _) rfl rfl ?_
        refine w_f (a := 263) (b := 128) (cb_eq_f (by exact nK_m1 (by omega))) rfl rfl ?_
        refine w_p (pc1 := 129) rfl rfl ?_
        refine w_p (pc1 := 130) rfl rfl ?_
        refine w_m0 (pc1 := 133) rfl rfl (h_gC rfl rfl rfl rfl) rfl ?_
        refine w_p (pc1 := 135) rfl rfl ?_
        refine w_p (pc1 := 136) rfl rfl ?_
        refine w_m0 (pc1 := 139) rfl rfl (h_gC rfl rfl rfl rfl) rfl ?_
        refine w_p (pc1 := 141) rfl rfl ?_
        refine w_m0 (pc1 := 142) (st1 := .ref (31 + D + 100) :: _) rfl rfl (n_als (e := D) rfl rfl (by decide) rfl (by omega) (KS_ol B.1 (by omega))) rfl ?_
        refine w_je (pc1 := 145) (vs := [.ref (241 + k0), .ref 113, .int (nI (k)), .ref (31 + D + 100)]) (rest := []) (st1 := [.int 0]) (hrf) rfl rfl rfl (fun _ _ => rfl) rfl (by exact cl_v my_139 rfl rfl rfl (Nat.le_of_ble_eq_true rfl) rfl (x_obj U.1) rfl (by decide) rfl rfl) (by rfl) (Nat.le_of_ble_eq_true rfl) (Nat.le_of_ble_eq_true rfl) rfl (by rfl) ?_
        refine w_t (a := 263) (b := 148) rfl rfl rfl ?_
        refine w_iinc (pc1 := 266) (u := nI (pre.length)) (z := nI (pre.length + 1)) (al1 := [(8, .int (nI (pre.length + 1))), (10, .int (nI (k))), (9, .int (x)), (7, .int (nI (is.length))), (0, .ref 124), (1, .int (nI (i))), (2, .ref (241 + k0)), (3, .int 2), (4, .int 1), (5, .int (i0)), (6, .int (nI (D)))]) rfl rfl rfl nK_1 rfl rfl ?_
        refine w_p (pc1 := 88) rfl rfl ?_
        refine Wd_al (al := [(8, .int (nI (pre.length + 1))), (7, .int (nI (is.length))), (0, .ref 124), (1, .int (nI (i))), (2, .ref (241 + k0)), (3, .int 2), (4, .int 1), (5, .int (i0)), (6, .int (nI (D)))]) (sba_p [0, 3, 4, 5, 6, 7, 8, 9, 10] rfl rfl) ?_
        exact ih C t σ h3 B U0 hid hf hst
      | true =>
        rw [hy] at hrf
        have fO : frB (31 + (D + 1)) C (ldC C (31 + (D + 1)) ((rTb u * 40 + k) * 6)) := ⟨fun _ _ => rfl, fun _ _ a => ld_o a, rfl⟩
        have hOb : bfK (ldC C (31 + (D + 1)) ((rTb u * 40 + k) * 6)) (31 + (D + 1)) (sWd S (rTb u)) r.2 := ld_v (by omega) B.2.1.1 hR.1.2.1 hr
        have hld := m_133 (L := L) (xs := xs) (t := t) (d := 4 * n + 11) (sl := 0) (kr := 31 + (D + 1)) (skO (by omega)) B.2.1.1 hR.1.2.1 hkl
        have fF : frB (46 + (D + 1)) (ldC C (31 + (D + 1)) ((rTb u * 40 + k) * 6)) (ldC (ldC C (31 + (D + 1)) ((rTb u * 40 + k) * 6)) (46 + (D + 1)) ((rTb u * 40 + k) * 6)) := ⟨fun _ _ => rfl, fun _ _ a => ld_o a, rfl⟩
        have hW1 := KE_B fO (by omega) B.2.1
        have hFb : bfK (ldC (ldC C (31 + (D + 1)) ((rTb u * 40 + k) * 6)) (46 + (D + 1)) ((rTb u * 40 + k) * 6)) (46 + (D + 1)) (sWd S (rTb u)) r.2 := ld_v (by omega) hW1.1 hR.1.2.1 hr
        have hld2 := m_133 (L := L) (xs := xs) (t := t) (d := 4 * n + 11) (sl := 0) (kr := 46 + (D + 1)) (skF (by omega)) hW1.1 hR.1.2.1 hkl
        have fOE : frE D (D + 1) C (ldC (ldC C (31 + (D + 1)) ((rTb u * 40 + k) * 6)) (46 + (D + 1)) ((rTb u * 40 + k) * 6)) := frE_t (frB_E fO (by omega)) (frB_E fF (by omega))
        have B2 : KB (ldC (ldC C (31 + (D + 1)) ((rTb u * 40 + k) * 6)) (46 + (D + 1)) ((rTb u * 40 + k) * 6)) t S σ D w2 (sWd S b) N O := KB_n B (by omega) fOE stk_r (KE_B fF (by omega) hW1)
        have hset := m_141_2 (L := L) (xs := xs) (d := 4 * n + 10) (sl := 0) (N := N) hD ho U hR hK hb1 (fun c hc => B2.2.2.2.1 c (by omega)) B2.1 hFb
        have e1 : rf1 S (stp S n) i u 2 1 i0 O N x σ = stp S n 1 (rTb u) x r.2 (setR 2 N (sDf S (rTb u)) r.2 (rCs u) (rOs u)) σ := by rw [e0, hfd]; show (bif rfg u O r then _ else _) = _; rw [hy]; rfl
        refine w_p (pc1 := 90) rfl rfl ?_
        refine w_p (pc1 := 92) rfl rfl ?_
        refine w_f (a := 269) (b := 95) (bN_ge_f (a := pre.length) (b := is.length) (by omega) (by omega) (by omega)) rfl rfl ?_
        refine w_p (pc1 := 96) rfl rfl ?_
        refine w_m0 (pc1 := 99) rfl rfl (h_gC rfl rfl rfl rfl) rfl ?_
        refine w_p (pc1 := 101) rfl rfl ?_
        refine w_m0 (pc1 := 102) (st1 := .ref (61 + D + 100) :: _) rfl rfl (n_als (e := D) rfl rfl (by decide) rfl (by omega) (KS_fo B.1 (by omega))) rfl ?_
        refine w_p (pc1 := 104) rfl rfl ?_
        refine w_m0 (pc1 := 105) (st1 := .int (x) :: _) rfl rfl (n_ile (k := 61 + D) (e := pre.length) rfl (skI (by omega)) rfl (by omega) (hx)) rfl ?_
        refine w_p (pc1 := 107) (al1 := [(9, .int (x)), (8, .int (nI (pre.length))), (7, .int (nI (is.length))), (0, .ref 124), (1, .int (nI (i))), (2, .ref (241 + k0)), (3, .int 2), (4, .int 1), (5, .int (i0)), (6, .int (nI (D)))]) rfl rfl ?_
        refine w_p (pc1 := 108) rfl rfl ?_
        refine w_m0 (pc1 := 111) rfl rfl (h_gC rfl rfl rfl rfl) rfl ?_
        refine w_p (pc1 := 112) rfl rfl ?_
        refine w_m0 (pc1 := 115) (st1 := .int (nI (rTb u)) :: _) rfl rfl (x_gf (k := k0) rfl U.1 rfl) rfl ?_
        refine w_p (pc1 := 117) rfl rfl ?_
        refine w_je (pc1 := 120) (vs := [.ref 113, .int (nI (rTb u)), .int (x)]) (rest := []) (st1 := [.int (nI (k))]) (hrw) rfl rfl rfl (fun _ _ => rfl) rfl (by exact cl_v my_132 rfl rfl rfl (Nat.le_of_ble_eq_true rfl) rfl (MH_obj rfl rfl) rfl (by decide) rfl rfl) (by rfl) (Nat.le_of_ble_eq_true rfl) (Nat.le_of_ble_eq_true rfl) rfl (by rfl) ?_
        refine w_p (pc1 := 122) (al1 := [(10, .int (nI (k))), (9, .int (x)), (8, .int (nI (pre.length))), (7, .int (nI (is.length))), (0, .ref 124), (1, .int (nI (i))), (2, .ref (241 + k0)), (3, .int 2), (4, .int 1), (5, .int (i0)), (6, .int (nI (D)))]) rfl rfl ?_
        refine w_p (pc1 := 124) rfl rfl ?_
        refine w_p (pc1 := 125) (st1 := .int (-1) :: _) rfl rfl ?_
        refine w_f (a := 263) (b := 128) (cb_eq_f (by exact nK_m1 (by omega))) rfl rfl ?_
        refine w_p (pc1 := 129) rfl rfl ?_
        refine w_p (pc1 := 130) rfl rfl ?_
        refine w_m0 (pc1 := 133) rfl rfl (h_gC rfl rfl rfl rfl) rfl ?_
        refine w_p (pc1 := 135) rfl rfl ?_
        refine w_p (pc1 := 136) rfl rfl ?_
        refine w_m0 (pc1 := 139) rfl rfl (h_gC rfl rfl rfl rfl) rfl ?_
        refine w_p (pc1 := 141) rfl rfl ?_
        refine w_m0 (pc1 := 142) (st1 := .ref (31 + D + 100) :: _) rfl rfl (n_als (e := D) rfl rfl (by decide) rfl (by omega) (KS_ol B.1 (by omega))) rfl ?_
        refine w_je (pc1 := 145) (vs := [.ref (241 + k0), .ref 113, .int (nI (k)), .ref (31 + D + 100)]) (rest := []) (st1 := [.int 1]) (hrf) rfl rfl rfl (fun _ _ => rfl) rfl (by exact cl_v my_139 rfl rfl rfl (Nat.le_of_ble_eq_true rfl) rfl (x_obj U.1) rfl (by decide) rfl rfl) (by rfl) (Nat.le_of_ble_eq_true rfl) (Nat.le_of_ble_eq_true rfl) rfl (by rfl) ?_
        refine w_f (a := 263) (b := 148) rfl rfl rfl ?_
        refine w_p (pc1 := 149) rfl rfl ?_
        refine w_p (pc1 := 150) (st1 := .int 1 :: _) rfl rfl ?_
        refine w_t (a := 169) (b := 153) rfl rfl rfl ?_
        refine w_p (pc1 := 170) rfl rfl ?_
        refine w_m0 (pc1 := 173) rfl rfl (h_gC rfl rfl rfl rfl) rfl ?_
        refine w_p (pc1 := 174) rfl rfl ?_
        refine w_m0 (pc1 := 177) (st1 := .int (nI (rTb u)) :: _) rfl rfl (x_gf (k := k0) rfl U.1 rfl) rfl ?_
        refine w_p (pc1 := 179) rfl rfl ?_
        refine w_p (pc1 := 180) rfl rfl ?_
        refine w_m0 (pc1 := 183) rfl rfl (h_gC rfl rfl rfl rfl) rfl ?_
        refine w_p (pc1 := 185) rfl rfl ?_
        refine w_p (pc1 := 186) (st1 := .int 1 :: _) rfl rfl ?_
        refine w_iadd (pc1 := 187) (u := nI (D)) (v := nI (1)) (z := nI (D + 1)) rfl (nK_add) rfl ?_
        refine w_m0 (pc1 := 188) (st1 := .ref (31 + (D + 1) + 100) :: _) rfl rfl (n_als (e := D + 1) rfl rfl (by decide) rfl (by omega) (KS_ol B.1 (by omega))) rfl ?_
        refine w_je (pc1 := 191) (vs := [.ref 113, .int (nI (rTb u)), .int (nI (k)), .ref (31 + (D + 1) + 100)]) (rest := []) (st1 := []) (hld) rfl rfl rfl (fun _ _ => rfl) rfl (by exact cl_v my_133 rfl rfl rfl (Nat.le_of_ble_eq_true rfl) rfl (MH_obj rfl rfl) rfl (by decide) rfl rfl) (by rfl) (Nat.le_of_ble_eq_true rfl) (Nat.le_of_ble_eq_true rfl) rfl (by rfl) ?_
        refine w_p (pc1 := 192) rfl rfl ?_
        refine w_p (pc1 := 193) (st1 := .int 2 :: _) rfl rfl ?_
        refine w_f (a := 219) (b := 196) rfl rfl rfl ?_
        refine w_p (pc1 := 198) rfl rfl ?_
        refine w_p (pc1 := 199) (st1 := .int 2 :: _) rfl rfl ?_
        refine w_t (a := 219) (b := 202) rfl rfl rfl ?_
        refine w_p (pc1 := 220) rfl rfl ?_
        refine w_m0 (pc1 := 223) rfl rfl (h_gC rfl rfl rfl rfl) rfl ?_
        refine w_p (pc1 := 224) rfl rfl ?_
        refine w_m0 (pc1 := 227) (st1 := .int (nI (rTb u)) :: _) rfl rfl (x_gf (k := k0) rfl U.1 rfl) rfl ?_
        refine w_p (pc1 := 229) rfl rfl ?_
        refine w_p (pc1 := 230) rfl rfl ?_
        refine w_m0 (pc1 := 233) rfl rfl (h_gC rfl rfl rfl rfl) rfl ?_
        refine w_p (pc1 := 235) rfl rfl ?_
        refine w_p (pc1 := 236) (st1 := .int 1 :: _) rfl rfl ?_
        refine w_iadd (pc1 := 237) (u := nI (D)) (v := nI (1)) (z := nI (D + 1)) rfl (nK_add) rfl ?_
        refine w_m0 (pc1 := 238) (st1 := .ref (46 + (D + 1) + 100) :: _) rfl rfl (n_als (e := D + 1) rfl rfl (by decide) rfl (by omega) (KS_fr (KS_B B.1 fO (by omega)) (by omega))) rfl ?_
        refine w_je (pc1 := 241) (vs := [.ref 113, .int (nI (rTb u)), .int (nI (k)), .ref (46 + (D + 1) + 100)]) (rest := []) (st1 := []) (hld2) rfl rfl rfl (fun _ _ => rfl) rfl (by exact cl_v my_133 rfl rfl rfl (Nat.le_of_ble_eq_true rfl) rfl (MH_obj rfl rfl) rfl (by decide) rfl rfl) (by rfl) (Nat.le_of_ble_eq_true rfl) (Nat.le_of_ble_eq_true rfl) rfl (by rfl) ?_
        refine w_p (pc1 := 242) rfl rfl ?_
        refine w_p (pc1 := 243) rfl rfl ?_
        refine w_p (pc1 := 244) rfl rfl ?_
        refine w_p (pc1 := 246) rfl rfl ?_
        refine w_ji (pc1 := 249) (vs := [.ref 124, .ref (241 + k0), .int 2, .int (nI (D))]) (rest := []) (hset) rfl rfl rfl (fun _ _ => rfl) rfl (by exact cl_v my_141 rfl rfl rfl (Nat.le_of_ble_eq_true rfl) rfl (MH_obj rfl rfl) rfl (by decide) rfl rfl) (by rfl) (Nat.le_of_ble_eq_true rfl) (Nat.le_of_ble_eq_true rfl) rfl (fun v h m hq => ?_) (fun _ _ _ e => e.elim)
        obtain ⟨rfl, ⟨C8, ⟨y2, y3⟩, rfl⟩, rfl⟩ := hq
        have hcall := hS.2.1 (rTb u) x r.2 (setR 2 N (sDf S (rTb u)) r.2 (rCs u) (rOs u)) σ C8 t hR.1.2.1 (KS_B B2.1 y3 (by omega)) (KE_B y3 (by omega) B2.2.1) (bfK_B y3 (by omega) (bfK_B fF (by omega) hOb)) y2
        have f8 : frE D (D + 1) C C8 := frE_t fOE (frB_E y3 (by omega))
        refine w_p (pc1 := 250) rfl rfl ?_
        refine w_p (pc1 := 251) rfl rfl ?_
        refine w_m0 (pc1 := 254) (st1 := .int (nI (rTb u)) :: _) rfl rfl (x_gf (k := k0) rfl U.1 rfl) rfl ?_
        refine w_p (pc1 := 256) rfl rfl ?_
        refine w_p (pc1 := 258) rfl rfl ?_
        refine w_p (pc1 := 259) (st1 := .int 1 :: _) rfl rfl ?_
        refine w_iadd (pc1 := 260) (u := nI (D)) (v := nI (1)) (z := nI (D + 1)) rfl (nK_add) rfl ?_
        refine w_ji (pc1 := 263) (vs := [.ref 124, .int (nI (rTb u)), .int (x), .int (nI (D + 1))]) (rest := []) (hcall) rfl rfl rfl (fun _ _ => rfl) rfl (by exact cl_v my_143 rfl rfl rfl (Nat.le_of_ble_eq_true rfl) rfl (MH_obj rfl rfl) rfl (by decide) rfl rfl) (by rfl) (Nat.le_of_ble_eq_true rfl) (Nat.le_of_ble_eq_true rfl) rfl (fun v h1 d1 hq => ?_) (fun a h1 d1 hq => ?_)
        · obtain ⟨z1, hv, ⟨C9, t9, ⟨z2, z3, z4⟩, hh⟩, hn⟩ := hq
          subst hv; subst hh; subst hn
          have f9 : frE D (D + 1) C C9 := frE_t f8 (frE_u z3 (by omega) (by omega))
          refine w_iinc (pc1 := 266) (u := nI (pre.length)) (z := nI (pre.length + 1)) (al1 := [(8, .int (nI (pre.length + 1))), (10, .int (nI (k))), (9, .int (x)), (7, .int (nI (is.length))), (0, .ref 124), (1, .int (nI (i))), (2, .ref (241 + k0)), (3, .int 2), (4, .int 1), (5, .int (i0)), (6, .int (nI (D)))]) rfl rfl rfl nK_1 rfl rfl ?_
          refine w_p (pc1 := 88) rfl rfl ?_
          have f9i : ∀ j, C9.1 (61 + D) j = C.1 (61 + D) j := fun j => (z3.1 (61 + D) j (by omega) (by omega) (by omega)).trans (((y3.1 (61 + D) j).trans (fF.1 (61 + D) j)).trans (fO.1 (61 + D) j))
          refine Wd_al (al := [(8, .int (nI (pre.length + 1))), (7, .int (nI (is.length))), (0, .ref 124), (1, .int (nI (i))), (2, .ref (241 + k0)), (3, .int 2), (4, .int 1), (5, .int (i0)), (6, .int (nI (D)))]) (sba_p [0, 3, 4, 5, 6, 7, 8, 9, 10] rfl rfl) ?_
          rw [lop_n (show rf1 S (stp S n) i u 2 1 i0 O N x σ = ((stp S n 1 (rTb u) x r.2 (setR 2 N (sDf S (rTb u)) r.2 (rCs u) (rOs u)) σ).1, none) by rw [e1, ← z1])]
          exact ih C9 t9 _ h3 (KB_n B (by omega) f9 z4 z2) (RUK_k z4 U0) (fun j y hj => (f9i j).trans (hid j y hj)) (frE_t hf f9) (stk_t hst z4)
        · rcases hq with ⟨e9, C9, t9, ⟨z1, z2, z3, z4, z5⟩, ha, hh, hn⟩
          · subst ha; subst hh; subst hn
            refine Or.inl ⟨ch_new (by decide) rfl, ?_⟩
            rw [lop_s (show rf1 S (stp S n) i u 2 1 i0 O N x σ = ((stp S n 1 (rTb u) x r.2 (setR 2 N (sDf S (rTb u)) r.2 (rCs u) (rOs u)) σ).1, some e9) by rw [e1, ← z1])]
            exact ⟨e9, C9, t9, ⟨rfl, z2, z3, frE_t hf (frE_t f8 (frE_u z4 (by omega) (by omega))), stk_t hst z5⟩, rfl, rfl, rfl⟩
set_option maxRecDepth 100000 in
theorem lp_138b_3_1 {C0 : co_T} {t0 : ab_H} {is : List Int32} (ho : okSt S) (hS : STP L xs S n (D + 1)) (hD : D < 13) (hR : okR (sWd S) u) (hK : rKd u = 4) (hb1 : rTg u = some b) (hb6 : b < 6) (hi4 : is.length ≤ 40) : ∀ (suf pre : List Int32) (C : co_T) (t : ab_H) (σ : es_T), pre ++ suf = is → KB C t S σ D w2 (sWd S b) N O → RUK t k0 u → (∀ j x, is[j]? = some x → C.1 (61 + D) j = x) → frE D (D + 1) C0 C → stk t0 t → Wd L xs (4 * n + 12 + 1) y_138 (88, [(8, .int (nI (pre.length))), (7, .int (nI (is.length))), (0, .ref 124), (1, .int (nI (i))), (2, .ref (241 + k0)), (3, .int 3), (4, .int 1), (5, .int (i0)), (6, .int (nI (D)))], [], MH C t, sl) (PR C0 t0 (sWd S) D (D + 1) sl (lop (rf1 S (stp S n) i u 3 1 i0 O N) suf σ)) (XR C0 t0 D (D + 1) sl (lop (rf1 S (stp S n) i u 3 1 i0 O N) suf σ))
  | [], pre, C, t, σ, hp, B, U0, hid, hf, hst => by
    rw [List.append_nil] at hp
    have hl2 := congrArg List.length hp
    obtain ⟨kc, kt, fc, ft, vw, U, hck⟩ := id U0
    refine w_p (pc1 := 90) rfl rfl ?_
    refine w_p (pc1 := 92) rfl rfl ?_
    refine w_t (a := 269) (b := 95) (bN_ge_t (a := pre.length) (b := is.length) (by omega) (by omega) (by omega)) rfl rfl ?_
    refine w_r rfl rfl rfl (fun _ _ => rfl) rfl ?_
    exact ⟨rfl, rfl, ⟨C, t, ⟨B.2.1, hf, hst⟩, rfl⟩, rfl⟩
  | x :: suf, pre, C, t, σ, hp, B, U0, hid, hf, hst => by
    obtain ⟨h1, h2, h3⟩ := get_ap hp
    obtain ⟨kc, kt, fc, ft, vw, U, hck⟩ := id U0
    have h40 := (B.2.1.1 _ hR.1.2.1).2.2.1
    have hw6 := ho.1 b hb6
    have hx := hid _ _ h1
    have hrw := rowK (L := L) (xs := xs) (t := t) (d := 4 * n + 10) (sl := 0) (i := x) B.2.1.1 hR.1.2.1
    have ih := lp_138b_3_1 (C0 := C0) (t0 := t0) ho hS hD hR hK hb1 hb6 hi4 suf (pre ++ [x])
    rw [len_s] at ih
    have e0 : rf1 S (stp S n) i u 3 1 i0 O N x σ = match fdr x (σ.1 (rTb u)).1 0 with | none => (σ, none) | some (_, r) => (bif rfg u O r then (stp S n 1 (rTb u) x r.2 (setR 3 N (sDf S (rTb u)) r.2 (rCs u) (rOs u)) σ) else (σ, none)) := rfl
    cases hfd : fdr x (σ.1 (rTb u)).1 0 with
    | none =>
      rw [hfd] at hrw
      have e1 : rf1 S (stp S n) i u 3 1 i0 O N x σ = (σ, none) := by rw [e0, hfd]
      rw [lop_n e1]
      refine w_p (pc1 := 90) rfl rfl ?_
      refine w_p (pc1 := 92) rfl rfl ?_
      refine w_f (a := 269) (b := 95) (bN_ge_f (a := pre.length) (b := is.length) (by omega) (by omega) (by omega)) rfl rfl ?_
      refine w_p (pc1 := 96) rfl rfl ?_
      refine w_m0 (pc1 := 99) rfl rfl (h_gC rfl rfl rfl rfl) rfl ?_
      refine w_p (pc1 := 101) rfl rfl ?_
      refine w_m0 (pc1 := 102) (st1 := .ref (61 + D + 100) :: _) rfl rfl (n_als (e := D) rfl rfl (by decide) rfl (by omega) (KS_fo B.1 (by omega))) rfl ?_
      refine w_p (pc1 := 104) rfl rfl ?_
      refine w_m0 (pc1 := 105) (st1 := .int (x) :: _) rfl rfl (n_ile (k := 61 + D) (e := pre.length) rfl (skI (by omega)) rfl (by omega) (hx)) rfl ?_
      refine w_p (pc1 := 107) (al1 := [(9, .int (x)), (8, .int (nI (pre.length))), (7, .int (nI (is.length))), (0, .ref 124), (1, .int (nI (i))), (2, .ref (241 + k0)), (3, .int 3), (4, .int 1), (5, .int (i0)), (6, .int (nI (D)))]) rfl rfl ?_
      refine w_p (pc1 := 108) rfl rfl ?_
      refine w_m0 (pc1 := 111) rfl rfl (h_gC rfl rfl rfl rfl) rfl ?_
      refine w_p (pc1 := 112) rfl rfl ?_
      refine w_m0 (pc1 := 115) (st1 := .int (nI (rTb u)) :: _) rfl rfl (x_gf (k := k0) rfl U.1 rfl) rfl ?_
      refine w_p (pc1 := 117) rfl rfl ?_
      refine w_je (pc1 := 120) (vs := [.ref 113, .int (nI (rTb u)), .int (x)]) (rest := []) (st1 := [.int (-1)]) (hrw) rfl rfl rfl (fun _ _ => rfl) rfl (by exact cl_v my_132 rfl rfl rfl (Nat.le_of_ble_eq_true rfl) rfl (MH_obj rfl rfl) rfl (by decide) rfl rfl) (by rfl) (Nat.le_of_ble_eq_true rfl) (Nat.le_of_ble_eq_true rfl) rfl (by rfl) ?_
      refine w_p (pc1 := 122) (al1 := [(10, .int (-1)), (9, .int (x)), (8, .int (nI (pre.length))), (7, .int (nI (is.length))), (0, .ref 124), (1, .int (nI (i))), (2, .ref (241 + k0)), (3, .int 3), (4, .int 1), (5, .int (i0)), (6, .int (nI (D)))]) rfl rfl ?_
      refine w_p (pc1 := 124) rfl rfl ?_
      refine w_p (pc1 := 125) (st1 := .int (-1) :: _) rfl rfl ?_
      refine w_t (a := 263) (b := 128) rfl rfl rfl ?_
      refine w_iinc (pc1 := 266) (u := nI (pre.length)) (z := nI (pre.length + 1)) (al1 := [(8, .int (nI (pre.length + 1))), (10, .int (-1)), (9, .int (x)), (7, .int (nI (is.length))), (0, .ref 124), (1, .int (nI (i))), (2, .ref (241 + k0)), (3, .int 3), (4, .int 1), (5, .int (i0)), (6, .int (nI (D)))]) rfl rfl rfl nK_1 rfl rfl ?_
      refine w_p (pc1 := 88) rfl rfl ?_
      refine Wd_al (al := [(8, .int (nI (pre.length + 1))), (7, .int (nI (is.length))), (0, .ref 124), (1, .int (nI (i))), (2, .ref (241 + k0)), (3, .int 3), (4, .int 1), (5, .int (i0)), (6, .int (nI (D)))]) (sba_p [0, 3, 4, 5, 6, 7, 8, 9, 10] rfl rfl) ?_
      exact ih C t σ h3 B U0 hid hf hst
    | some q =>
      obtain ⟨k, r⟩ := q
      rw [hfd] at hrw
      obtain ⟨-, hr, hr1⟩ := fdr_s hfd
      rw [Nat.sub_zero] at hr
      have hkl := get_lt hr
      have hrf := m_139 (L := L) (xs := xs) (d := 4 * n + 10) (sl := 0) (kr := 31 + D) (l := []) (O := O) (skO (by omega)) B.2.1.1 U hR hK hb1 hw6 B.2.2.2.2 hr
      cases hy : rfg u O r with
      | false =>
        rw [hy] at hrf
        have e1 : rf1 S (stp S n) i u 3 1 i0 O N x σ = (σ, none) := by rw [e0, hfd]; show (bif rfg u O r then _ else _) = _; rw [hy]; rfl
        rw [lop_n e1]
        refine w_p (pc1 := 90) rfl rfl ?_
        refine w_p (pc1 := 92) rfl rfl ?_
        refine w_f (a := 269) (b := 95) (bN_ge_f (a := pre.length) (b := is.length) (by omega) (by omega) (by omega)) rfl rfl ?_
        refine w_p (pc1 := 96) rfl rfl ?_
        refine w_m0 (pc1 := 99) rfl rfl (h_gC rfl rfl rfl rfl) rfl ?_
        refine w_p (pc1 := 101) rfl rfl ?_
        refine w_m0 (pc1 := 102) (st1 := .ref (61 + D + 100) :: _) rfl rfl (n_als (e := D) rfl rfl (by decide) rfl (by omega) (KS_fo B.1 (by omega))) rfl ?_
        refine w_p (pc1 := 104) rfl rfl ?_
        refine w_m0 (pc1 := 105) (st1 := .int (x) :: _) rfl rfl (n_ile (k := 61 + D) (e := pre.length) rfl (skI (by omega)) rfl (by omega) (hx)) rfl ?_
        refine w_p (pc1 := 107) (al1 := [(9, .int (x)), (8, .int (nI (pre.length))), (7, .int (nI (is.length))), (0, .ref 124), (1, .int (nI (i))), (2, .ref (241 + k0)), (3, .int 3), (4, .int 1), (5, .int (i0)), (6, .int (nI (D)))]) rfl rfl ?_
        refine w_p (pc1 := 108) rfl rfl ?_
        refine w_m0 (pc1 := 111) rfl rfl (h_gC rfl rfl rfl rfl) rfl ?_
        refine w_p (pc1 := 112) rfl rfl ?_
        refine w_m0 (pc1 := 115) (st1 := .int (nI (rTb u)) :: _) rfl rfl (x_gf (k := k0) rfl U.1 rfl) rfl ?_
        refine w_p (pc1 := 117) rfl rfl ?_
        refine w_je (pc1 := 120) (vs := [.ref 113, .int (nI (rTb u)), .int (x)]) (rest := []) (st1 := [.int (nI (k))]) (hrw) rfl rfl rfl (fun _ _ => rfl) rfl (by exact cl_v my_132 rfl rfl rfl (Nat.le_of_ble_eq_true rfl) rfl (MH_obj rfl rfl) rfl (by decide) rfl rfl) (by rfl) (Nat.le_of_ble_eq_true rfl) (Nat.le_of_ble_eq_true rfl) rfl (by rfl) ?_
        refine w_p (pc1 := 122) (al1 := [(10, .int (nI (k))), (9, .int (x)), (8, .int (nI (pre.length))), (7, .int (nI (is.length))), (0, .ref 124), (1, .int (nI (i))), (2, .ref (241 + k0)), (3, .int 3), (4, .int 1), (5, .int (i0)), (6, .int (nI (D)))]) rfl rfl ?_
        refine w_p (pc1 := 124) rfl rfl ?_
        refine w_p (pc1 := 125) (st1 := .int (-1) :: _) rfl rfl ?_
        refine w_f (a := 263) (b := 128) (cb_eq_f (by exact nK_m1 (by omega))) rfl rfl ?_
        refine w_p (pc1 := 129) rfl rfl ?_
        refine w_p (pc1 := 130) rfl rfl ?_
        refine w_m0 (pc1 := 133) rfl rfl (h_gC rfl rfl rfl rfl) rfl ?_
        refine w_p (pc1 := 135) rfl rfl ?_
        refine w_p (pc1 := 136) rfl rfl ?_
        refine w_m0 (pc1 := 139) rfl rfl (h_gC rfl rfl rfl rfl) rfl ?_
        refine w_p (pc1 := 141) rfl rfl ?_
        refine w_m0 (pc1 := 142) (st1 := .ref (31 + D + 100) :: _) rfl rfl (n_als (e := D) rfl rfl (by decide) rfl (by omega) (KS_ol B.1 (by omega))) rfl ?_
        refine w_je (pc1 := 145) (vs := [.ref (241 + k0), .ref 113, .int (nI (k)), .ref (31 + D + 100)]) (rest := []) (st1 := [.int 0]) (hrf) rfl rfl rfl (fun _ _ => rfl) rfl (by exact cl_v my_139 rfl rfl rfl (Nat.le_of_ble_eq_true rfl) rfl (x_obj U.1) rfl (by decide) rfl rfl) (by rfl) (Nat.le_of_ble_eq_true rfl) (Nat.le_of_ble_eq_true rfl) rfl (by rfl) ?_
        refine w_t (a := 263) (b := 148) rfl rfl rfl ?_
        refine w_iinc (pc1 := 266) (u := nI (pre.length)) (z := nI (pre.length + 1)) (al1 := [(8, .int (nI (pre.length + 1))), (10, .int (nI (k))), (9, .int (x)), (7, .int (nI (is.length))), (0, .ref 124), (1, .int (nI (i))), (2, .ref (241 + k0)), (3, .int 3), (4, .int 1), (5, .int (i0)), (6, .int (nI (D)))]) rfl rfl rfl nK_1 rfl rfl ?_
        refine w_p (pc1 := 88) rfl rfl ?_
        refine Wd_al (al := [(8, .int (nI (pre.length + 1))), (7, .int (nI (is.length))), (0, .ref 124), (1, .int (nI (i))), (2, .ref (241 + k0)), (3, .int 3), (4, .int 1), (5, .int (i0)), (6, .int (nI (D)))]) (sba_p [0, 3, 4, 5, 6, 7, 8, 9, 10] rfl rfl) ?_
        exact ih C t σ h3 B U0 hid hf hst
      | true =>
        rw [hy] at hrf
        have fO : frB (31 + (D + 1)) C (ldC C (31 + (D + 1)) ((rTb u * 40 + k) * 6)) := ⟨fun _ _ => rfl, fun _ _ a => ld_o a, rfl⟩
        have hOb : bfK (ldC C (31 + (D + 1)) ((rTb u * 40 + k) * 6)) (31 + (D + 1)) (sWd S (rTb u)) r.2 := ld_v (by omega) B.2.1.1 hR.1.2.1 hr
        have hld := m_133 (L := L) (xs := xs) (t := t) (d := 4 * n + 11) (sl := 0) (kr := 31 + (D + 1)) (skO (by omega)) B.2.1.1 hR.1.2.1 hkl
        have fF : frB (46 + (D + 1)) (ldC C (31 + (D + 1)) ((rTb u * 40 + k) * 6)) (ldC (ldC C (31 + (D + 1)) ((rTb u * 40 + k) * 6)) (46 + (D + 1)) ((rTb u * 40 + k) * 6)) := ⟨fun _ _ => rfl, fun _ _ a => ld_o a, rfl⟩
        have hW1 := KE_B fO (by omega) B.2.1
        have hFb : bfK (ldC (ldC C (31 + (D + 1)) ((rTb u * 40 + k) * 6)) (46 + (D + 1)) ((rTb u * 40 + k) * 6)) (46 + (D + 1)) (sWd S (rTb u)) r.2 := ld_v (by omega) hW1.1 hR.1.2.1 hr
        have hld2 := m_133 (L := L) (xs := xs) (t := t) (d := 4 * n + 11) (sl := 0) (kr := 46 + (D + 1)) (skF (by omega)) hW1.1 hR.1.2.1 hkl
        have fOE : frE D (D + 1) C (ldC (ldC C (31 + (D + 1)) ((rTb u * 40 + k) * 6)) (46 + (D + 1)) ((rTb u * 40 + k) * 6)) := frE_t (frB_E fO (by omega)) (frB_E fF (by omega))
        have B2 : KB (ldC (ldC C (31 + (D + 1)) ((rTb u * 40 + k) * 6)) (46 + (D + 1)) ((rTb u * 40 + k) * 6)) t S σ D w2 (sWd S b) N O := KB_n B (by omega) fOE stk_r (KE_B fF (by omega) hW1)
        have hset := m_141_3 (L := L) (xs := xs) (d := 4 * n + 10) (sl := 0) (N := N) hD ho U hR hK hb1 B2.1 hFb
        have e1 : rf1 S (stp S n) i u 3 1 i0 O N x σ = stp S n 1 (rTb u) x r.2 (setR 3 N (sDf S (rTb u)) r.2 (rCs u) (rOs u)) σ := by rw [e0, hfd]; show (bif rfg u O r then _ else _) = _; rw [hy]; rfl
        refine w_p (pc1 := 90) rfl rfl ?_
        refine w_p (pc1 := 92) rfl rfl ?_
        refine w_f (a := 269) (b := 95) (bN_ge_f (a := pre.length) (b := is.length) (by omega) (by omega) (by omega)) rfl rfl ?_
        refine w_p (pc1 := 96) rfl rfl ?_
        refine w_m0 (pc1 := 99) rfl rfl (h_gC rfl rfl rfl rfl) rfl ?_
        refine w_p (pc1 := 101) rfl rfl ?_
        refine w_m0 (pc1 := 102) (st1 := .ref (61 + D + 100) :: _) rfl rfl (n_als (e := D) rfl rfl (by decide) rfl (by omega) (KS_fo B.1 (by omega))) rfl ?_
        refine w_p (pc1 := 104) rfl rfl ?_
        refine w_m0 (pc1 := 105) (st1 := .int (x) :: _) rfl rfl (n_ile (k := 61 + D) (e := pre.length) rfl (skI (by omega)) rfl (by omega) (hx)) rfl ?_
        refine w_p (pc1 := 107) (al1 := [(9, .int (x)), (8, .int (nI (pre.length))), (7, .int (nI (is.length))), (0, .ref 124), (1, .int (nI (i))), (2, .ref (241 + k0)), (3, .int 3), (4, .int 1), (5, .int (i0)), (6, .int (nI (D)))]) rfl rfl ?_
        refine w_p (pc1 := 108) rfl rfl ?_
        refine w_m0 (pc1 := 111) rfl rfl (h_gC rfl rfl rfl rfl) rfl ?_
        refine w_p (pc1 := 112) rfl rfl ?_
        refine w_m0 (pc1 := 115) (st1 := .int (nI (rTb u)) :: _) rfl rfl (x_gf (k := k0) rfl U.1 rfl) rfl ?_
        refine w_p (pc1 := 117) rfl rfl ?_
        refine w_je (pc1 := 120) (vs := [.ref 113, .int (nI (rTb u)), .int (x)]) (rest := []) (st1 := [.int (nI (k))]) (hrw) rfl rfl rfl (fun _ _ => rfl) rfl (by exact cl_v my_132 rfl rfl rfl (Nat.le_of_ble_eq_true rfl) rfl (MH_obj rfl rfl) rfl (by decide) rfl rfl) (by rfl) (Nat.le_of_ble_eq_true rfl) (Nat.le_of_ble_eq_true rfl) rfl (by rfl) ?_
        refine w_p (pc1 := 122) (al1 := [(10, .int (nI (k))), (9, .int (x)), (8, .int (nI (pre.length))), (7, .int (nI (is.length))), (0, .ref 124), (1, .int (nI (i))), (2, .ref (241 + k0)), (3, .int 3), (4, .int 1), (5, .int (i0)), (6, .int (nI (D)))]) rfl rfl ?_
        refine w_p (pc1 := 124) rfl rfl ?_
        refine w_p (pc1 := 125) (st1 := .int (-1) :: _) rfl rfl ?_
        refine w_f (a := 263) (b := 128) (cb_eq_f (by exact nK_m1 (by omega))) rfl rfl ?_
        refine w_p (pc1 := 129) rfl rfl ?_
        refine w_p (pc1 := 130) rfl rfl ?_
        refine w_m0 (pc1 := 133) rfl rfl (h_gC rfl rfl rfl rfl) rfl ?_
        refine w_p (pc1 := 135) rfl rfl ?_
        refine w_p (pc1 := 136) rfl rfl ?_
        refine w_m0 (pc1 := 139) rfl rfl (h_gC rfl rfl rfl rfl) rfl ?_
        refine w_p (pc1 := 141) rfl rfl ?_
        refine w_m0 (pc1 := 142) (st1 := .ref (31 + D + 100) :: _) rfl rfl (n_als (e := D) rfl rfl (by decide) rfl (by omega) (KS_ol B.1 (by omega))) rfl ?_
        refine w_je (pc1 := 145) (vs := [.ref (241 + k0), .ref 113, .int (nI (k)), .ref (31 + D + 100)]) (rest := []) (st1 := [.int 1]) (hrf) rfl rfl rfl (fun _ _ => rfl) rfl (by exact cl_v my_139 rfl rfl rfl (Nat.le_of_ble_eq_true rfl) rfl (x_obj U.1) rfl (by decide) rfl rfl) (by rfl) (Nat.le_of_ble_eq_true rfl) (Nat.le_of_ble_eq_true rfl) rfl (by rfl) ?_
        refine w_f (a := 263) (b := 148) rfl rfl rfl ?_
        refine w_p (pc1 := 149) rfl rfl ?_
        refine w_p (pc1 := 150) (st1 := .int 1 :: _) rfl rfl ?_
        refine w_t (a := 169) (b := 153) rfl rfl rfl ?_
        refine w_p (pc1 := 170) rfl rfl ?_
        refine w_m0 (pc1 := 173) rfl rfl (h_gC rfl rfl rfl rfl) rfl ?_
        refine w_p (pc1 := 174) rfl rfl ?_
        refine w_m0 (pc1 := 177) (st1 := .int (nI (rTb u)) :: _) rfl rfl (x_gf (k := k0) rfl U.1 rfl) rfl ?_
        refine w_p (pc1 := 179) rfl rfl ?_
        refine w_p (pc1 := 180) rfl rfl ?_
        refine w_m0 (pc1 := 183) rfl rfl (h_gC rfl rfl rfl rfl) rfl ?_
        refine w_p (pc1 := 185) rfl rfl ?_
        refine w_p (pc1 := 186) (st1 := .int 1 :: _) rfl rfl ?_
        refine w_iadd (pc1 := 187) (u := nI (D)) (v := nI (1)) (z := nI (D + 1)) rfl (nK_add) rfl ?_
        refine w_m0 (pc1 := 188) (st1 := .ref (31 + (D + 1) + 100) :: _) rfl rfl (n_als (e := D + 1) rfl rfl (by decide) rfl (by omega) (KS_ol B.1 (by omega))) rfl ?_
        refine w_je (pc1 := 191) (vs := [.ref 113, .int (nI (rTb u)), .int (nI (k)), .ref (31 + (D + 1) + 100)]) (rest := []) (st1 := []) (hld) rfl rfl rfl (fun _ _ => rfl) rfl (by exact cl_v my_133 rfl rfl rfl (Nat.le_of_ble_eq_true rfl) rfl (MH_obj rfl rfl) rfl (by decide) rfl rfl) (by rfl) (Nat.le_of_ble_eq_true rfl) (Nat.le_of_ble_eq_true rfl) rfl (by rfl) ?_
        refine w_p (pc1 := 192) rfl rfl ?_
        refine w_p (pc1 := 193) (st1 := .int 2 :: _) rfl rfl ?_
        refine w_t (a := 219) (b := 196) rfl rfl rfl ?_
        refine w_p (pc1 := 220) rfl rfl ?_
        refine w_m0 (pc1 := 223) rfl rfl (h_gC rfl rfl rfl rfl) rfl ?_
        refine w_p (pc1 := 224) rfl rfl ?_
        refine w_m0 (pc1 := 227) (st1 := .int (nI (rTb u)) :: _) rfl rfl (x_gf (k := k0) rfl U.1 rfl) rfl ?_
        refine w_p (pc1 := 229) rfl rfl ?_
        refine w_p (pc1 := 230) rfl rfl ?_
        refine w_m0 (pc1 := 233) rfl rfl (h_gC rfl rfl rfl rfl) rfl ?_
        refine w_p (pc1 := 235) rfl rfl ?_
        refine w_p (pc1 := 236) (st1 := .int 1 :: _) rfl rfl ?_
        refine w_iadd (pc1 := 237) (u := nI (D)) (v := nI (1)) (z := nI (D + 1)) rfl (nK_add) rfl ?_
        refine w_m0 (pc1 := 238) (st1 := .ref (46 + (D + 1) + 100) :: _) rfl rfl (n_als (e := D + 1) rfl rfl (by decide) rfl (by omega) (KS_fr (KS_B B.1 fO (by omega)) (by omega))) rfl ?_
        refine w_je (pc1 := 241) (vs := [.ref 113, .int (nI (rTb u)), .int (nI (k)), .ref (46 + (D + 1) + 100)]) (rest := []) (st1 := []) (hld2) rfl rfl rfl (fun _ _ => rfl) rfl (by exact cl_v my_133 rfl rfl rfl (Nat.le_of_ble_eq_true rfl) rfl (MH_obj rfl rfl) rfl (by decide) rfl rfl) (by rfl) (Nat.le_of_ble_eq_true rfl) (Nat.le_of_ble_eq_true rfl) rfl (by rfl) ?_
        refine w_p (pc1 := 242) rfl rfl ?_
        refine w_p (pc1 := 243) rfl rfl ?_
        refine w_p (pc1 := 244) rfl rfl ?_
        refine w_p (pc1 := 246) rfl rfl ?_
        refine w_ji (pc1 := 249) (vs := [.ref 124, .ref (241 + k0), .int 3, .int (nI (D))]) (rest := []) (hset) rfl rfl rfl (fun _ _ => rfl) rfl (by exact cl_v my_141 rfl rfl rfl (Nat.le_of_ble_eq_true rfl) rfl (MH_obj rfl rfl) rfl (by decide) rfl rfl) (by rfl) (Nat.le_of_ble_eq_true rfl) (Nat.le_of_ble_eq_true rfl) rfl (fun v h m hq => ?_) (fun _ _ _ e => e.elim)
        obtain ⟨rfl, ⟨C8, ⟨y2, y3⟩, rfl⟩, rfl⟩ := hq
        have hcall := hS.2.1 (rTb u) x r.2 (setR 3 N (sDf S (rTb u)) r.2 (rCs u) (rOs u)) σ C8 t hR.1.2.1 (KS_B B2.1 y3 (by omega)) (KE_B y3 (by omega) B2.2.1) (bfK_B y3 (by omega) (bfK_B fF (by omega) hOb)) y2
        have f8 : frE D (D + 1) C C8 := frE_t fOE (frB_E y3 (by omega))
        refine w_p (pc1 := 250) rfl rfl ?_
        refine w_p (pc1 := 251) rfl rfl ?_
        refine w_m0 (pc1 := 254) (st1 := .int (nI (rTb u)) :: _) rfl rfl (x_gf (k := k0) rfl U.1 rfl) rfl ?_
        refine w_p (pc1 := 256) rfl rfl ?_
        refine w_p (pc1 := 258) rfl rfl ?_
        refine w_p (pc1 := 259) (st1 := .int 1 :: _) rfl rfl ?_
        refine w_iadd (pc1 := 260) (u := nI (D)) (v := nI (1)) (z := nI (D + 1)) rfl (nK_add) rfl ?_
        refine w_ji (pc1 := 263) (vs := [.ref 124, .int (nI (rTb u)), .int (x), .int (nI (D + 1))]) (rest := []) (hcall) rfl rfl rfl (fun _ _ => rfl) rfl (by exact cl_v my_143 rfl rfl rfl (Nat.le_of_ble_eq_true rfl) rfl (MH_obj rfl rfl) rfl (by decide) rfl rfl) (by rfl) (Nat.le_of_ble_eq_true rfl) (Nat.le_of_ble_eq_true rfl) rfl (fun v h1 d1 hq => ?_) (fun a h1 d1 hq => ?_)
        · obtain ⟨z1, hv, ⟨C9, t9, ⟨z2, z3, z4⟩, hh⟩, hn⟩ := hq
          subst hv; subst hh; subst hn
          have f9 : frE D (D + 1) C C9 := frE_t f8 (frE_u z3 (by omega) (by omega))
          refine w_iinc (pc1 := 266) (u := nI (pre.length)) (z := nI (pre.length + 1)) (al1 := [(8, .int (nI (pre.length + 1))), (10, .int (nI (k))), (9, .int (x)), (7, .int (nI (is.length))), (0, .ref 124), (1, .int (nI (i))), (2, .ref (241 + k0)), (3, .int 3), (4, .int 1), (5, .int (i0)), (6, .int (nI (D)))]) rfl rfl rfl nK_1 rfl rfl ?_
          refine w_p (pc1 := 88) rfl rfl ?_
          have f9i : ∀ j, C9.1 (61 + D) j = C.1 (61 + D) j := fun j => (z3.1 (61 + D) j (by omega) (by omega) (by omega)).trans (((y3.1 (61 + D) j).trans (fF.1 (61 + D) j)).trans (fO.1 (61 + D) j))
          refine Wd_al (al := [(8, .int (nI (pre.length + 1))), (7, .int (nI (is.length))), (0, .ref 124), (1, .int (nI (i))), (2, .ref (241 + k0)), (3, .int 3), (4, .int 1), (5, .int (i0)), (6, .int (nI (D)))]) (sba_p [0, 3, 4, 5, 6, 7, 8, 9, 10] rfl rfl) ?_
          rw [lop_n (show rf1 S (stp S n) i u 3 1 i0 O N x σ = ((stp S n 1 (rTb u) x r.2 (setR 3 N (sDf S (rTb u)) r.2 (rCs u) (rOs u)) σ).1, none) by rw [e1, ← z1])]
          exact ih C9 t9 _ h3 (KB_n B (by omega) f9 z4 z2) (RUK_k z4 U0) (fun j y hj => (f9i j).trans (hid j y hj)) (frE_t hf f9) (stk_t hst z4)
        · rcases hq with ⟨e9, C9, t9, ⟨z1, z2, z3, z4, z5⟩, ha, hh, hn⟩
          · subst ha; subst hh; subst hn
            refine Or.inl ⟨ch_new (by decide) rfl, ?_⟩
            rw [lop_s (show rf1 S (stp S n) i u 3 1 i0 O N x σ = ((stp S n 1 (rTb u) x r.2 (setR 3 N (sDf S (rTb u)) r.2 (rCs u) (rOs u)) σ).1, some e9) by rw [e1, ← z1])]
            exact ⟨e9, C9, t9, ⟨rfl, z2, z3, frE_t hf (frE_t f8 (frE_u z4 (by omega) (by omega))), stk_t hst z5⟩, rfl, rfl, rfl⟩
set_option maxRecDepth 100000 in
theorem lp_138b_4_1 {C0 : co_T} {t0 : ab_H} {is : List Int32} (ho : okSt S) (hS : STP L xs S n (D + 1)) (hD : D < 13) (hR : okR (sWd S) u) (hK : rKd u = 4) (hb1 : rTg u = some b) (hb6 : b < 6) (hi4 : is.length ≤ 40) : ∀ (suf pre : List Int32) (C : co_T) (t : ab_H) (σ : es_T), pre ++ suf = is → KB C t S σ D w2 (sWd S b) N O → RUK t k0 u → (∀ j x, is[j]? = some x → C.1 (61 + D) j = x) → frE D (D + 1) C0 C → stk t0 t → Wd L xs (4 * n + 12 + 1) y_138 (88, [(8, .int (nI (pre.length))), (7, .int (nI (is.length))), (0, .ref 124), (1, .int (nI (i))), (2, .ref (241 + k0)), (3, .int 4), (4, .int 1), (5, .int (i0)), (6, .int (nI (D)))], [], MH C t, sl) (PR C0 t0 (sWd S) D (D + 1) sl (lop (rf1 S (stp S n) i u 4 1 i0 O N) suf σ)) (XR C0 t0 D (D + 1) sl (lop (rf1 S (stp S n) i u 4 1 i0 O N) suf σ))
  | [], pre, C, t, σ, hp, B, U0, hid, hf, hst => by
    rw [List.append_nil] at hp
    have hl2 := congrArg List.length hp
    obtain ⟨kc, kt, fc, ft, vw, U, hck⟩ := id U0
    refine w_p (pc1 := 90) rfl rfl ?_
    refine w_p (pc1 := 92) rfl rfl ?_
    refine w_t (a := 269) (b := 95) (bN_ge_t (a := pre.length) (b := is.length) (by omega) (by omega) (by omega)) rfl rfl ?_
    refine w_r rfl rfl rfl (fun _ _ => rfl) rfl ?_
    exact ⟨rfl, rfl, ⟨C, t, ⟨B.2.1, hf, hst⟩, rfl⟩, rfl⟩
  | x :: suf, pre, C, t, σ, hp, B, U0, hid, hf, hst => by
    obtain ⟨h1, h2, h3⟩ := get_ap hp
    obtain ⟨kc, kt, fc, ft, vw, U, hck⟩ := id U0
    have h40 := (B.2.1.1 _ hR.1.2.1).2.2.1
    have hw6 := ho.1 b hb6
    have hx := hid _ _ h1
    have hrw := rowK (L := L) (xs := xs) (t := t) (d := 4 * n + 10) (sl := 0) (i := x) B.2.1.1 hR.1.2.1
    have ih := lp_138b_4_1 (C0 := C0) (t0 := t0) ho hS hD hR hK hb1 hb6 hi4 suf (pre ++ [x])
    rw [len_s] at ih
    have e0 : rf1 S (stp S n) i u 4 1 i0 O N x σ = match fdr x (σ.1 (rTb u)).1 0 with | none => (σ, none) | some (_, r) => (bif rfg u O r then (stp S n 1 (rTb u) x r.2 (setR 4 N (sDf S (rTb u)) r.2 (rCs u) (rOs u)) σ) else (σ, none)) := rfl
    cases hfd : fdr x (σ.1 (rTb u)).1 0 with
    | none =>
      rw [hfd] at hrw
      have e1 : rf1 S (stp S n) i u 4 1 i0 O N x σ = (σ, none) := by rw [e0, hfd]
      rw [lop_n e1]
      refine w_p (pc1 := 90) rfl rfl ?_
      refine w_p (pc1 := 92) rfl rfl ?_
      refine w_f (a := 269) (b := 95) (bN_ge_f (a := pre.length) (b := is.length) (by omega) (by omega) (by omega)) rfl rfl ?_
      refine w_p (pc1 := 96) rfl rfl ?_
      refine w_m0 (pc1 := 99) rfl rfl (h_gC rfl rfl rfl rfl) rfl ?_
      refine w_p (pc1 := 101) rfl rfl ?_
      refine w_m0 (pc1 := 102) (st1 := .ref (61 + D + 100) :: _) rfl rfl (n_als (e := D) rfl rfl (by decide) rfl (by omega) (KS_fo B.1 (by omega))) rfl ?_
      refine w_p (pc1 := 104) rfl rfl ?_
      refine w_m0 (pc1 := 105) (st1 := .int (x) :: _) rfl rfl (n_ile (k := 61 + D) (e := pre.length) rfl (skI (by omega)) rfl (by omega) (hx)) rfl ?_
      refine w_p (pc1 := 107) (al1 := [(9, .int (x)), (8, .int (nI (pre.length))), (7, .int (nI (is.length))), (0, .ref 124), (1, .int (nI (i))), (2, .ref (241 + k0)), (3, .int 4), (4, .int 1), (5, .int (i0)), (6, .int (nI (D)))]) rfl rfl ?_
      refine w_p (pc1 := 108) rfl rfl ?_
      refine w_m0 (pc1 := 111) rfl rfl (h_gC rfl rfl rfl rfl) rfl ?_
      refine w_p (pc1 := 112) rfl rfl ?_
      refine w_m0 (pc1 := 115) (st1 := .int (nI (rTb u)) :: _) rfl rfl (x_gf (k := k0) rfl U.1 rfl) rfl ?_
      refine w_p (pc1 := 117) rfl rfl ?_
      refine w_je (pc1 := 120) (vs := [.ref 113, .int (nI (rTb u)), .int (x)]) (rest := []) (st1 := [.int (-1)]) (hrw) rfl rfl rfl (fun _ _ => rfl) rfl (by exact cl_v my_132 rfl rfl rfl (Nat.le_of_ble_eq_true rfl) rfl (MH_obj rfl rfl) rfl (by decide) rfl rfl) (by rfl) (Nat.le_of_ble_eq_true rfl) (Nat.le_of_ble_eq_true rfl) rfl (by rfl) ?_
      refine w_p (pc1 := 122) (al1 := [(10, .int (-1)), (9, .int (x)), (8, .int (nI (pre.length))), (7, .int (nI (is.length))), (0, .ref 124), (1, .int (nI (i))), (2, .ref (241 + k0)), (3, .int 4), (4, .int 1), (5, .int (i0)), (6, .int (nI (D)))]) rfl rfl ?_
      refine w_p (pc1 := 124) rfl rfl ?_
      refine w_p (pc1 := 125) (st1 := .int (-1) :: _) rfl rfl ?_
      refine w_t (a := 263) (b := 128) rfl rfl rfl ?_
      refine w_iinc (pc1 := 266) (u := nI (pre.length)) (z := nI (pre.length + 1)) (al1 := [(8, .int (nI (pre.length + 1))), (10, .int (-1)), (9, .int (x)), (7, .int (nI (is.length))), (0, .ref 124), (1, .int (nI (i))), (2, .ref (241 + k0)), (3, .int 4), (4, .int 1), (5, .int (i0)), (6, .int (nI (D)))]) rfl rfl rfl nK_1 rfl rfl ?_
      refine w_p (pc1 := 88) rfl rfl ?_
      refine Wd_al (al := [(8, .int (nI (pre.length + 1))), (7, .int (nI (is.length))), (0, .ref 124), (1, .int (nI (i))), (2, .ref (241 + k0)), (3, .int 4), (4, .int 1), (5, .int (i0)), (6, .int (nI (D)))]) (sba_p [0, 3, 4, 5, 6, 7, 8, 9, 10] rfl rfl) ?_
      exact ih C t σ h3 B U0 hid hf hst
    | some q =>
      obtain ⟨k, r⟩ := q
      rw [hfd] at hrw
      obtain ⟨-, hr, hr1⟩ := fdr_s hfd
      rw [Nat.sub_zero] at hr
      have hkl := get_lt hr
      have hrf := m_139 (L := L) (xs := xs) (d := 4 * n + 10) (sl := 0) (kr := 31 + D) (l := []) (O := O) (skO (by omega)) B.2.1.1 U hR hK hb1 hw6 B.2.2.2.2 hr
      cases hy : rfg u O r with
      | false =>
        rw [hy] at hrf
        have e1 : rf1 S (stp S n) i u 4 1 i0 O N x σ = (σ, none) := by rw [e0, hfd]; show (bif rfg u O r then _ else _) = _; rw [hy]; rfl
        rw [lop_n e1]
        refine w_p (pc1 := 90) rfl rfl ?_
        refine w_p (pc1 := 92) rfl rfl ?_
        refine w_f (a := 269) (b := 95) (bN_ge_f (a := pre.length) (b := is.length) (by omega) (by omega) (by omega)) rfl rfl ?_
        refine w_p (pc1 := 96) rfl rfl ?_
        refine w_m0 (pc1 := 99) rfl rfl (h_gC rfl rfl rfl rfl) rfl ?_
        refine w_p (pc1 := 101) rfl rfl ?_
        refine w_m0 (pc1 := 102) (st1 := .ref (61 + D + 100) :: _) rfl rfl (n_als (e := D) rfl rfl (by decide) rfl (by omega) (KS_fo B.1 (by omega))) rfl ?_
        refine w_p (pc1 := 104) rfl rfl ?_
        refine w_m0 (pc1 := 105) (st1 := .int (x) :: _) rfl rfl (n_ile (k := 61 + D) (e := pre.length) rfl (skI (by omega)) rfl (by omega) (hx)) rfl ?_
        refine w_p (pc1 := 107) (al1 := [(9, .int (x)), (8, .int (nI (pre.length))), (7, .int (nI (is.length))), (0, .ref 124), (1, .int (nI (i))), (2, .ref (241 + k0)), (3, .int 4), (4, .int 1), (5, .int (i0)), (6, .int (nI (D)))]) rfl rfl ?_
        refine w_p (pc1 := 108) rfl rfl ?_
        refine w_m0 (pc1 := 111) rfl rfl (h_gC rfl rfl rfl rfl) rfl ?_
        refine w_p (pc1 := 112) rfl rfl ?_
        refine w_m0 (pc1 := 115) (st1 := .int (nI (rTb u)) :: _) rfl rfl (x_gf (k := k0) rfl U.1 rfl) rfl ?_
        refine w_p (pc1 := 117) rfl rfl ?_
        refine w_je (pc1 := 120) (vs := [.ref 113, .int (nI (rTb u)), .int (x)]) (rest := []) (st1 := [.int (nI (k))]) (hrw) rfl rfl rfl (fun _ _ => rfl) rfl (by exact cl_v my_132 rfl rfl rfl (Nat.le_of_ble_eq_true rfl) rfl (MH_obj rfl rfl) rfl (by decide) rfl rfl) (by rfl) (Nat.le_of_ble_eq_true rfl) (Nat.le_of_ble_eq_true rfl) rfl (by rfl) ?_
        refine w_p (pc1 := 122) (al1 := [(10, .int (nI (k))), (9, .int (x)), (8, .int (nI (pre.length))), (7, .int (nI (is.length))), (0, .ref 124), (1, .int (nI (i))), (2, .ref (241 + k0)), (3, .int 4), (4, .int 1), (5, .int (i0)), (6, .int (nI (D)))]) rfl rfl ?_
        refine w_p (pc1 := 124) rfl rfl ?_
        refine w_p (pc1 := 125) (st1 := .int (-1) :: _) rfl rfl ?_
        refine w_f (a := 263) (b := 128) (cb_eq_f (by exact nK_m1 (by omega))) rfl rfl ?_
        refine w_p (pc1 := 129) rfl rfl ?_
        refine w_p (pc1 := 130) rfl rfl ?_
        refine w_m0 (pc1 := 133) rfl rfl (h_gC rfl rfl rfl rfl) rfl ?_
        refine w_p (pc1 := 135) rfl rfl ?_
        refine w_p (pc1 := 136) rfl rfl ?_
        refine w_m0 (pc1 := 139) rfl rfl (h_gC rfl rfl rfl rfl) rfl ?_
        refine w_p (pc1 := 141) rfl rfl ?_
        refine w_m0 (pc1 := 142) (st1 := .ref (31 + D + 100) :: _) rfl rfl (n_als (e := D) rfl rfl (by decide) rfl (by omega) (KS_ol B.1 (by omega))) rfl ?_
        refine w_je (pc1 := 145) (vs := [.ref (241 + k0), .ref 113, .int (nI (k)), .ref (31 + D + 100)]) (rest := []) (st1 := [.int 0]) (hrf) rfl rfl rfl (fun _ _ => rfl) rfl (by exact cl_v my_139 rfl rfl rfl (Nat.le_of_ble_eq_true rfl) rfl (x_obj U.1) rfl (by decide) rfl rfl) (by rfl) (Nat.le_of_ble_eq_true rfl) (Nat.le_of_ble_eq_true rfl) rfl (by rfl) ?_
        refine w_t (a := 263) (b := 148) rfl rfl rfl ?_
        refine w_iinc (pc1 := 266) (u := nI (pre.length)) (z := nI (pre.length + 1)) (al1 := [(8, .int (nI (pre.length + 1))), (10, .int (nI (k))), (9, .int (x)), (7, .int (nI (is.length))), (0, .ref 124), (1, .int (nI (i))), (2, .ref (241 + k0)), (3, .int 4), (4, .int 1), (5, .int (i0)), (6, .int (nI (D)))]) rfl rfl rfl nK_1 rfl rfl ?_
        refine w_p (pc1 := 88) rfl rfl ?_
        refine Wd_al (al := [(8, .int (nI (pre.length + 1))), (7, .int (nI (is.length))), (0, .ref 124), (1, .int (nI (i))), (2, .ref (241 + k0)), (3, .int 4), (4, .int 1), (5, .int (i0)), (6, .int (nI (D)))]) (sba_p [0, 3, 4, 5, 6, 7, 8, 9, 10] rfl rfl) ?_
        exact ih C t σ h3 B U0 hid hf hst
      | true =>
        rw [hy] at hrf
        have fO : frB (31 + (D + 1)) C (ldC C (31 + (D + 1)) ((rTb u * 40 + k) * 6)) := ⟨fun _ _ => rfl, fun _ _ a => ld_o a, rfl⟩
        have hOb : bfK (ldC C (31 + (D + 1)) ((rTb u * 40 + k) * 6)) (31 + (D + 1)) (sWd S (rTb u)) r.2 := ld_v (by omega) B.2.1.1 hR.1.2.1 hr
        have hld := m_133 (L := L) (xs := xs) (t := t) (d := 4 * n + 11) (sl := 0) (kr := 31 + (D + 1)) (skO (by omega)) B.2.1.1 hR.1.2.1 hkl
        have fF : frB (46 + (D + 1)) (ldC C (31 + (D + 1)) ((rTb u * 40 + k) * 6)) (ldC (ldC C (31 + (D + 1)) ((rTb u * 40 + k) * 6)) (46 + (D + 1)) ((rTb u * 40 + k) * 6)) := ⟨fun _ _ => rfl, fun _ _ a => ld_o a, rfl⟩
        have hW1 := KE_B fO (by omega) B.2.1
        have hFb : bfK (ldC (ldC C (31 + (D + 1)) ((rTb u * 40 + k) * 6)) (46 + (D + 1)) ((rTb u * 40 + k) * 6)) (46 + (D + 1)) (sWd S (rTb u)) r.2 := ld_v (by omega) hW1.1 hR.1.2.1 hr
        have hld2 := m_133 (L := L) (xs := xs) (t := t) (d := 4 * n + 11) (sl := 0) (kr := 46 + (D + 1)) (skF (by omega)) hW1.1 hR.1.2.1 hkl
        have fOE : frE D (D + 1) C (ldC (ldC C (31 + (D + 1)) ((rTb u * 40 + k) * 6)) (46 + (D + 1)) ((rTb u * 40 + k) * 6)) := frE_t (frB_E fO (by omega)) (frB_E fF (by omega))
        have B2 : KB (ldC (ldC C (31 + (D + 1)) ((rTb u * 40 + k) * 6)) (46 + (D + 1)) ((rTb u * 40 + k) * 6)) t S σ D w2 (sWd S b) N O := KB_n B (by omega) fOE stk_r (KE_B fF (by omega) hW1)
        have hset := m_141_4 (L := L) (xs := xs) (d := 4 * n + 10) (sl := 0) (N := N) hD ho U hR hK hb1 B2.1 hFb
        have e1 : rf1 S (stp S n) i u 4 1 i0 O N x σ = stp S n 1 (rTb u) x r.2 (setR 4 N (sDf S (rTb u)) r.2 (rCs u) (rOs u)) σ := by rw [e0, hfd]; show (bif rfg u O r then _ else _) = _; rw [hy]; rfl
        refine w_p (pc1 := 90) rfl rfl ?_
        refine w_p (pc1 := 92) rfl rfl ?_
        refine w_f (a := 269) (b := 95) (bN_ge_f (a := pre.length) (b := is.length) (by omega) (by omega) (by omega)) rfl rfl ?_
        refine w_p (pc1 := 96) rfl rfl ?_
        refine w_m0 (pc1 := 99) rfl rfl (h_gC rfl rfl rfl rfl) rfl ?_
        refine w_p (pc1 := 101) rfl rfl ?_
        refine w_m0 (pc1 := 102) (st1 := .ref (61 + D + 100) :: _) rfl rfl (n_als (e := D) rfl rfl (by decide) rfl (by omega) (KS_fo B.1 (by omega))) rfl ?_
        refine w_p (pc1 := 104) rfl rfl ?_
        refine w_m0 (pc1 := 105) (st1 := .int (x) :: _) rfl rfl (n_ile (k := 61 + D) (e := pre.length) rfl (skI (by omega)) rfl (by omega) (hx)) rfl ?_
        refine w_p (pc1 := 107) (al1 := [(9, .int (x)), (8, .int (nI (pre.length))), (7, .int (nI (is.length))), (0, .ref 124), (1, .int (nI (i))), (2, .ref (241 + k0)), (3, .int 4), (4, .int 1), (5, .int (i0)), (6, .int (nI (D)))]) rfl rfl ?_
        refine w_p (pc1 := 108) rfl rfl ?_
        refine w_m0 (pc1 := 111) rfl rfl (h_gC rfl rfl rfl rfl) rfl ?_
        refine w_p (pc1 := 112) rfl rfl ?_
        refine w_m0 (pc1 := 115) (st1 := .int (nI (rTb u)) :: _) rfl rfl (x_gf (k := k0) rfl U.1 rfl) rfl ?_
        refine w_p (pc1 := 117) rfl rfl ?_
        refine w_je (pc1 := 120) (vs := [.ref 113, .int (nI (rTb u)), .int (x)]) (rest := []) (st1 := [.int (nI (k))]) (hrw) rfl rfl rfl (fun _ _ => rfl) rfl (by exact cl_v my_132 rfl rfl rfl (Nat.le_of_ble_eq_true rfl) rfl (MH_obj rfl rfl) rfl (by decide) rfl rfl) (by rfl) (Nat.le_of_ble_eq_true rfl) (Nat.le_of_ble_eq_true rfl) rfl (by rfl) ?_
        refine w_p (pc1 := 122) (al1 := [(10, .int (nI (k))), (9, .int (x)), (8, .int (nI (pre.length))), (7, .int (nI (is.length))), (0, .ref 124), (1, .int (nI (i))), (2, .ref (241 + k0)), (3, .int 4), (4, .int 1), (5, .int (i0)), (6, .int (nI (D)))]) rfl rfl ?_
        refine w_p (pc1 := 124) rfl rfl ?_
        refine w_p (pc1 := 125) (st1 := .int (-1) :: _) rfl rfl ?_
        refine w_f (a := 263) (b := 128) (cb_eq_f (by exact nK_m1 (by omega))) rfl rfl ?_
        refine w_p (pc1 := 129) rfl rfl ?_
        refine w_p (pc1 := 130) rfl rfl ?_
        refine w_m0 (pc1 := 133) rfl rfl (h_gC rfl rfl rfl rfl) rfl ?_
        refine w_p (pc1 := 135) rfl rfl ?_
        refine w_p (pc1 := 136) rfl rfl ?_
        refine w_m0 (pc1 := 139) rfl rfl (h_gC rfl rfl rfl rfl) rfl ?_
        refine w_p (pc1 := 141) rfl rfl ?_
        refine w_m0 (pc1 := 142) (st1 := .ref (31 + D + 100) :: _) rfl rfl (n_als (e := D) rfl rfl (by decide) rfl (by omega) (KS_ol B.1 (by omega))) rfl ?_
        refine w_je (pc1 := 145) (vs := [.ref (241 + k0), .ref 113, .int (nI (k)), .ref (31 + D + 100)]) (rest := []) (st1 := [.int 1]) (hrf) rfl rfl rfl (fun _ _ => rfl) rfl (by exact cl_v my_139 rfl rfl rfl (Nat.le_of_ble_eq_true rfl) rfl (x_obj U.1) rfl (by decide) rfl rfl) (by rfl) (Nat.le_of_ble_eq_true rfl) (Nat.le_of_ble_eq_true rfl) rfl (by rfl) ?_
        refine w_f (a := 263) (b := 148) rfl rfl rfl ?_
        refine w_p (pc1 := 149) rfl rfl ?_
        refine w_p (pc1 := 150) (st1 := .int 1 :: _) rfl rfl ?_
        refine w_t (a := 169) (b := 153) rfl rfl rfl ?_
        refine w_p (pc1 := 170) rfl rfl ?_
        refine w_m0 (pc1 := 173) rfl rfl (h_gC rfl rfl rfl rfl) rfl ?_
        refine w_p (pc1 := 174) rfl rfl ?_
        refine w_m0 (pc1 := 177) (st1 := .int (nI (rTb u)) :: _) rfl rfl (x_gf (k := k0) rfl U.1 rfl) rfl ?_
        refine w_p (pc1 := 179) rfl rfl ?_
        refine w_p (pc1 := 180) rfl rfl ?_
        refine w_m0 (pc1 := 183) rfl rfl (h_gC rfl rfl rfl rfl) rfl ?_
        refine w_p (pc1 := 185) rfl rfl ?_
        refine w_p (pc1 := 186) (st1 := .int 1 :: _) rfl rfl ?_
        refine w_iadd (pc1 := 187) (u := nI (D)) (v := nI (1)) (z := nI (D + 1)) rfl (nK_add) rfl ?_
        refine w_m0 (pc1 := 188) (st1 := .ref (31 + (D + 1) + 100) :: _) rfl rfl (n_als (e := D + 1) rfl rfl (by decide) rfl (by omega) (KS_ol B.1 (by omega))) rfl ?_
        refine w_je (pc1 := 191) (vs := [.ref 113, .int (nI (rTb u)), .int (nI (k)), .ref (31 + (D + 1) + 100)]) (rest := []) (st1 := []) (hld) rfl rfl rfl (fun _ _ => rfl) rfl (by exact cl_v my_133 rfl rfl rfl (Nat.le_of_ble_eq_true rfl) rfl (MH_obj rfl rfl) rfl (by decide) rfl rfl) (by rfl) (Nat.le_of_ble_eq_true rfl) (Nat.le_of_ble_eq_true rfl) rfl (by rfl) ?_
        refine w_p (pc1 := 192) rfl rfl ?_
        refine w_p (pc1 := 193) (st1 := .int 2 :: _) rfl rfl ?_
        refine w_t (a := 219) (b := 196) rfl rfl rfl ?_
        refine w_p (pc1 := 220) rfl rfl ?_
        refine w_m0 (pc1 := 223) rfl rfl (h_gC rfl rfl rfl rfl) rfl ?_
        refine w_p (pc1 := 224) rfl rfl ?_
        refine w_m0 (pc1 := 227) (st1 := .int (nI (rTb u)) :: _) rfl rfl (x_gf (k := k0) rfl U.1 rfl) rfl ?_
        refine w_p (pc1 := 229) rfl rfl ?_
        refine w_p (pc1 := 230) rfl rfl ?_
        refine w_m0 (pc1 := 233) rfl rfl (h_gC rfl rfl rfl rfl) rfl ?_
        refine w_p (pc1 := 235) rfl rfl ?_
        refine w_p (pc1 := 236) (st1 := .int 1 :: _) rfl rfl ?_
        refine w_iadd (pc1 := 237) (u := nI (D)) (v := nI (1)) (z := nI (D + 1)) rfl (nK_add) rfl ?_
        refine w_m0 (pc1 := 238) (st1 := .ref (46 + (D + 1) + 100) :: _) rfl rfl (n_als (e := D + 1) rfl rfl (by decide) rfl (by omega) (KS_fr (KS_B B.1 fO (by omega)) (by omega))) rfl ?_
        refine w_je (pc1 := 241) (vs := [.ref 113, .int (nI (rTb u)), .int (nI (k)), .ref (46 + (D + 1) + 100)]) (rest := []) (st1 := []) (hld2) rfl rfl rfl (fun _ _ => rfl) rfl (by exact cl_v my_133 rfl rfl rfl (Nat.le_of_ble_eq_true rfl) rfl (MH_obj rfl rfl) rfl (by decide) rfl rfl) (by rfl) (Nat.le_of_ble_eq_true rfl) (Nat.le_of_ble_eq_true rfl) rfl (by rfl) ?_
        refine w_p (pc1 := 242) rfl rfl ?_
        refine w_p (pc1 := 243) rfl rfl ?_
        refine w_p (pc1 := 244) rfl rfl ?_
        refine w_p (pc1 := 246) rfl rfl ?_
        refine w_ji (pc1 := 249) (vs := [.ref 124, .ref (241 + k0), .int 4, .int (nI (D))]) (rest := []) (hset) rfl rfl rfl (fun _ _ => rfl) rfl (by exact cl_v my_141 rfl rfl rfl (Nat.le_of_ble_eq_true rfl) rfl (MH_obj rfl rfl) rfl (by decide) rfl rfl) (by rfl) (Nat.le_of_ble_eq_true rfl) (Nat.le_of_ble_eq_true rfl) rfl (fun v h m hq => ?_) (fun _ _ _ e => e.elim)
        obtain ⟨rfl, ⟨C8, ⟨y2, y3⟩, rfl⟩, rfl⟩ := hq
        have hcall := hS.2.1 (rTb u) x r.2 (setR 4 N (sDf S (rTb u)) r.2 (rCs u) (rOs u)) σ C8 t hR.1.2.1 (KS_B B2.1 y3 (by omega)) (KE_B y3 (by omega) B2.2.1) (bfK_B y3 (by omega) (bfK_B fF (by omega) hOb)) y2
        have f8 : frE D (D + 1) C C8 := frE_t fOE (frB_E y3 (by omega))
        refine w_p (pc1 := 250) rfl rfl ?_
        refine w_p (pc1 := 251) rfl rfl ?_
        refine w_m0 (pc1 := 254) (st1 := .int (nI (rTb u)) :: _) rfl rfl (x_gf (k := k0) rfl U.1 rfl) rfl ?_
        refine w_p (pc1 := 256) rfl rfl ?_
        refine w_p (pc1 := 258) rfl rfl ?_
        refine w_p (pc1 := 259) (st1 := .int 1 :: _) rfl rfl ?_
        refine w_iadd (pc1 := 260) (u := nI (D)) (v := nI (1)) (z := nI (D + 1)) rfl (nK_add) rfl ?_
        refine w_ji (pc1 := 263) (vs := [.ref 124, .int (nI (rTb u)), .int (x), .int (nI (D + 1))]) (rest := []) (hcall) rfl rfl rfl (fun _ _ => rfl) rfl (by exact cl_v my_143 rfl rfl rfl (Nat.le_of_ble_eq_true rfl) rfl (MH_obj rfl rfl) rfl (by decide) rfl rfl) (by rfl) (Nat.le_of_ble_eq_true rfl) (Nat.le_of_ble_eq_true rfl) rfl (fun v h1 d1 hq => ?_) (fun a h1 d1 hq => ?_)
        · obtain ⟨z1, hv, ⟨C9, t9, ⟨z2, z3, z4⟩, hh⟩, hn⟩ := hq
          subst hv; subst hh; subst hn
          have f9 : frE D (D + 1) C C9 := frE_t f8 (frE_u z3 (by omega) (by omega))
          refine w_iinc (pc1 := 266) (u := nI (pre.length)) (z := nI (pre.length + 1)) (al1 := [(8, .int (nI (pre.length + 1))), (10, .int (nI (k))), (9, .int (x)), (7, .int (nI (is.length))), (0, .ref 124), (1, .int (nI (i))), (2, .ref (241 + k0)), (3, .int 4), (4, .int 1), (5, .int (i0)), (6, .int (nI (D)))]) rfl rfl rfl nK_1 rfl rfl ?_
          refine w_p (pc1 := 88) rfl rfl ?_
          have f9i : ∀ j, C9.1 (61 + D) j = C.1 (61 + D) j := fun j => (z3.1 (61 + D) j (by omega) (by omega) (by omega)).trans (((y3.1 (61 + D) j).trans (fF.1 (61 + D) j)).trans (fO.1 (61 + D) j))
          refine Wd_al (al := [(8, .int (nI (pre.length + 1))), (7, .int (nI (is.length))), (0, .ref 124), (1, .int (nI (i))), (2, .ref (241 + k0)), (3, .int 4), (4, .int 1), (5, .int (i0)), (6, .int (nI (D)))]) (sba_p [0, 3, 4, 5, 6, 7, 8, 9, 10] rfl rfl) ?_
          rw [lop_n (show rf1 S (stp S n) i u 4 1 i0 O N x σ = ((stp S n 1 (rTb u) x r.2 (setR 4 N (sDf S (rTb u)) r.2 (rCs u) (rOs u)) σ).1, none) by rw [e1, ← z1])]
          exact ih C9 t9 _ h3 (KB_n B (by omega) f9 z4 z2) (RUK_k z4 U0) (fun j y hj => (f9i j).trans (hid j y hj)) (frE_t hf f9) (stk_t hst z4)
        · rcases hq with ⟨e9, C9, t9, ⟨z1, z2, z3, z4, z5⟩, ha, hh, hn⟩
          · subst ha; subst hh; subst hn
            refine Or.inl ⟨ch_new (by decide) rfl, ?_⟩
            rw [lop_s (show rf1 S (stp S n) i u 4 1 i0 O N x σ = ((stp S n 1 (rTb u) x r.2 (setR 4 N (sDf S (rTb u)) r.2 (rCs u) (rOs u)) σ).1, some e9) by rw [e1, ← z1])]
            exact ⟨e9, C9, t9, ⟨rfl, z2, z3, frE_t hf (frE_t f8 (frE_u z4 (by omega) (by omega))), stk_t hst z5⟩, rfl, rfl, rfl⟩
set_option maxRecDepth 100000 in
theorem m_138_1 {act : Nat} (ho : okSt S) (hS : STP L xs S n (D + 1)) (hD : D < 13) (hR : okR (sWd S) u) (hK : rKd u = 4) (hb1 : rTg u = some b) (hb6 : b < 6) (ha : act ≠ 0) (ha4 : act ≤ 4) (hw2 : sWd S b ≤ w2) (B : KB C t S σ D w2 (sWd S b) N O) (U0 : RUK t k0 u) : Wd L xs (4 * n + 12 + 1) y_138 (0, [(0, .ref 124), (1, .int (nI (i))), (2, .ref (241 + k0)), (3, .int (nI (act))), (4, .int 1), (5, .int (i0)), (6, .int (nI (D)))], [], MH C t, sl) (PR C t (sWd S) D (D + 1) sl (lop (rf1 S (stp S n) i u act 1 i0 O N) (rids u O (σ.1 (rTb u)).1) σ)) (XR C t D (D + 1) sl (lop (rf1 S (stp S n) i u act 1 i0 O N) (rids u O (σ.1 (rTb u)).1) σ)) := by
  obtain ⟨kc, kt, fc, ft, vw, U, hck⟩ := id U0
  refine w_p (pc1 := 1) (st1 := .int 0 :: _) rfl rfl ?_
  refine w_p (pc1 := 3) (al1 := [(7, .int 0), (0, .ref 124), (1, .int (nI (i))), (2, .ref (241 + k0)), (3, .int (nI (act))), (4, .int 1), (5, .int (i0)), (6, .int (nI (D)))]) rfl rfl ?_
  refine w_p (pc1 := 4) (st1 := .int 0 :: _) rfl rfl ?_
  refine w_p (pc1 := 6) (al1 := [(8, .int 0), (7, .int 0), (0, .ref 124), (1, .int (nI (i))), (2, .ref (241 + k0)), (3, .int (nI (act))), (4, .int 1), (5, .int (i0)), (6, .int (nI (D)))]) rfl rfl ?_
  refine lp_138a (d := 4 * n + 9) (C0 := C) (σ := σ) (w2 := w2) (N := N) (O := O) ho hD ha ha4 hR hK hb1 hb6 U (σ.1 (rTb u)).1 [] [] C rfl B (Nat.le_refl _) (fun j x hj => by cases hj) frI_r (fun C1 q1 q2 q3 => ?_)
  rw [List.nil_append] at q1 q3 ⊢
  have fE : frE D (D + 1) C C1 := frI_E q2 (by omega)
  have B1 := KB_n B (by omega) fE stk_r (KE_I q2 (by omega) B.2.1)
  have h4 : act = 1 ∨ act = 2 ∨ act = 3 ∨ act = 4 := by omega
  rcases h4 with rfl | rfl | rfl | rfl
  · skip
    refine w_p (pc1 := 86) (st1 := .int 0 :: _) rfl rfl ?_
    refine w_p (pc1 := 88) (al1 := [(8, .int 0), (7, .int (nI ((rids u O (σ.1 (rTb u)).1).length))), (0, .ref 124), (1, .int (nI (i))), (2, .ref (241 + k0)), (3, .int 1), (4, .int 1), (5, .int (i0)), (6, .int (nI (D)))]) rfl rfl ?_
    exact lp_138b_1_1 ho hS hD hR hK hb1 hb6 q3 _ [] C1 t σ rfl B1 U0 q1 fE stk_r
  · skip
    refine w_p (pc1 := 86) (st1 := .int 0 :: _) rfl rfl ?_
    refine w_p (pc1 := 88) (al1 := [(8, .int 0), (7, .int (nI ((rids u O (σ.1 (rTb u)).1).length))), (0, .ref 124), (1, .int (nI (i))), (2, .ref (241 + k0)), (3, .int 2), (4, .int 1), (5, .int (i0)), (6, .int (nI (D)))]) rfl rfl ?_
    exact lp_138b_2_1 ho hS hD hR hK hb1 hb6 q3 hw2 _ [] C1 t σ rfl B1 U0 q1 fE stk_r
  · skip
    refine w_p (pc1 := 86) (st1 := .int 0 :: _) rfl rfl ?_
    refine w_p (pc1 := 88) (al1 := [(8, .int 0), (7, .int (nI ((rids u O (σ.1 (rTb u)).1).length))), (0, .ref 124), (1, .int (nI (i))), (2, .ref (241 + k0)), (3, .int 3), (4, .int 1), (5, .int (i0)), (6, .int (nI (D)))]) rfl rfl ?_
    exact lp_138b_3_1 ho hS hD hR hK hb1 hb6 q3 _ [] C1 t σ rfl B1 U0 q1 fE stk_r
  · skip
    refine w_p (pc1 := 86) (st1 := .int 0 :: _) rfl rfl ?_
    refine w_p (pc1 := 88) (al1 := [(8, .int 0), (7, .int (nI ((rids u O (σ.1 (rTb u)).1).length))), (0, .ref 124), (1, .int (nI (i))), (2, .ref (241 + k0)), (3, .int 4), (4, .int 1), (5, .int (i0)), (6, .int (nI (D)))]) rfl rfl ?_
    exact lp_138b_4_1 ho hS hD hR hK hb1 hb6 q3 _ [] C1 t σ rfl B1 U0 q1 fE stk_r
set_option maxRecDepth 100000 in
theorem lp_138n {ev : Nat} (W : RWK C (sWd S) σ.1) (U : RUo t k0 kc kt u fc ft vw) (hb : rTb u < 6) : ∀ (m k : Nat), k + m = (σ.1 (rTb u)).1.length → Wd L xs (d + 1) y_138 (6, [(8, .int (nI (k))), (7, .int 0), (0, .ref 124), (1, .int (nI (i))), (2, .ref (241 + k0)), (3, .int 0), (4, .int (nI (ev))), (5, .int (i0)), (6, .int (nI (D)))], [], MH C t, sl) (Rt none (MH C t) sl) nX
  | 0, k, hk => by
    have h40 := (W _ hb).2.2.1
    have hsz := sizeK (L := L) (xs := xs) (t := t) (d := d) (sl := 0) W hb
    refine w_p (pc1 := 8) rfl rfl ?_
    refine w_p (pc1 := 9) rfl rfl ?_
    refine w_m0 (pc1 := 12) rfl rfl (h_gC rfl rfl rfl rfl) rfl ?_
    refine w_p (pc1 := 13) rfl rfl ?_
    refine w_m0 (pc1 := 16) (st1 := .int (nI (rTb u)) :: _) rfl rfl (x_gf (k := k0) rfl U.1 rfl) rfl ?_
    refine w_je (pc1 := 19) (vs := [.ref 113, .int (nI (rTb u))]) (rest := [.int (nI (k))]) (st1 := [.int (nI ((σ.1 (rTb u)).1.length)), .int (nI (k))]) (hsz) rfl rfl rfl (fun _ _ => rfl) rfl (by exact cl_v my_107 rfl rfl rfl (Nat.le_of_ble_eq_true rfl) rfl (MH_obj rfl rfl) rfl (by decide) rfl rfl) (by rfl) (Nat.le_of_ble_eq_true rfl) (Nat.le_of_ble_eq_true rfl) rfl (by rfl) ?_
    refine w_t (a := 85) (b := 22) (bN_ge_t (a := k) (b := (σ.1 (rTb u)).1.length) (by omega) (by omega) (by omega)) rfl rfl ?_
    refine w_p (pc1 := 86) (st1 := .int 0 :: _) rfl rfl ?_
    refine w_p (pc1 := 88) (al1 := [(8, .int 0), (7, .int 0), (0, .ref 124), (1, .int (nI (i))), (2, .ref (241 + k0)), (3, .int 0), (4, .int (nI (ev))), (5, .int (i0)), (6, .int (nI (D)))]) rfl rfl ?_
    refine w_p (pc1 := 90) rfl rfl ?_
    refine w_p (pc1 := 92) rfl rfl ?_
    refine w_t (a := 269) (b := 95) rfl rfl rfl ?_
    refine w_r rfl rfl rfl (fun _ _ => rfl) rfl ?_
    exact ⟨rfl, rfl, rfl⟩
  | m + 1, k, hk => by
    have h40 := (W _ hb).2.2.1
    have hsz := sizeK (L := L) (xs := xs) (t := t) (d := d) (sl := 0) W hb
    refine w_p (pc1 := 8) rfl rfl ?_
    refine w_p (pc1 := 9) rfl rfl ?_
    refine w_m0 (pc1 := 12) rfl rfl (h_gC rfl rfl rfl rfl) rfl ?_
    refine w_p (pc1 := 13) rfl rfl ?_
    refine w_m0 (pc1 := 16) (st1 := .int (nI (rTb u)) :: _) rfl rfl (x_gf (k := k0) rfl U.1 rfl) rfl ?_
    refine w_je (pc1 := 19) (vs := [.ref 113, .int (nI (rTb u))]) (rest := [.int (nI (k))]) (st1 := [.int (nI ((σ.1 (rTb u)).1.length)), .int (nI (k))]) (hsz) rfl rfl rfl (fun _ _ => rfl) rfl (by exact cl_v my_107 rfl rfl rfl (Nat.le_of_ble_eq_true rfl) rfl (MH_obj rfl rfl) rfl (by decide) rfl rfl) (by rfl) (Nat.le_of_ble_eq_true rfl) (Nat.le_of_ble_eq_true rfl) rfl (by rfl) ?_
    refine w_f (a := 85) (b := 22) (bN_ge_f (a := k) (b := (σ.1 (rTb u)).1.length) (by omega) (by omega) (by omega)) rfl rfl ?_
    refine w_p (pc1 := 24) rfl rfl ?_
    refine w_p (pc1 := 26) (st1 := .int 40 :: _) rfl rfl ?_
    refine w_f (a := 85) (b := 29) rfl rfl rfl ?_
    refine w_p (pc1 := 30) rfl rfl ?_
    refine w_t (a := 79) (b := 33) rfl rfl rfl ?_
    refine w_iinc (pc1 := 82) (u := nI (k)) (z := nI (k + 1)) (al1 := [(8, .int (nI (k + 1))), (7, .int 0), (0, .ref 124), (1, .int (nI (i))), (2, .ref (241 + k0)), (3, .int 0), (4, .int (nI (ev))), (5, .int (i0)), (6, .int (nI (D)))]) rfl rfl rfl nK_1 rfl rfl ?_
    refine w_p (pc1 := 6) rfl rfl ?_
    exact lp_138n W U hb m (k + 1) (by omega)
set_option maxRecDepth 100000 in
theorem m_138n {ev : Nat} (W : RWK C (sWd S) σ.1) (U : RUo t k0 kc kt u fc ft vw) (hb : rTb u < 6) : Wd L xs (d + 1) y_138 (0, [(0, .ref 124), (1, .int (nI (i))), (2, .ref (241 + k0)), (3, .int 0), (4, .int (nI (ev))), (5, .int (i0)), (6, .int (nI (D)))], [], MH C t, sl) (Rt none (MH C t) sl) nX := by
  refine w_p (pc1 := 1) (st1 := .int 0 :: _) rfl rfl ?_
  refine w_p (pc1 := 3) (al1 := [(7, .int 0), (0, .ref 124), (1, .int (nI (i))), (2, .ref (241 + k0)), (3, .int 0), (4, .int (nI (ev))), (5, .int (i0)), (6, .int (nI (D)))]) rfl rfl ?_
  refine w_p (pc1 := 4) (st1 := .int 0 :: _) rfl rfl ?_
  refine w_p (pc1 := 6) (al1 := [(8, .int 0), (7, .int 0), (0, .ref 124), (1, .int (nI (i))), (2, .ref (241 + k0)), (3, .int 0), (4, .int (nI (ev))), (5, .int (i0)), (6, .int (nI (D)))]) rfl rfl ?_
  exact lp_138n W U hb (σ.1 (rTb u)).1.length 0 (by omega)
end KE6
