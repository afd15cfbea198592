
/-! THE OTHER SIDE READS A TABLE, 9: REFER, CHECK, an item -/
section MTI
variable {L : Nat} {xs : Nat → Int32} {B : Nat → Nat} {n : Nat} {C C' C0 C1 : co_T} {t : ab_H} {d i i0 i1 j b e p k w q : Nat} {U V : Nat → Prop} {c : Int32} {sc : sc_T} {row : Option Nat} {tg : Option (Nat × Nat)} {nl : Option Nat} {E : fe_T} {tr : Nat → Option tr_T}
variable {r e d1 u1 : Nat} {l : List Nat} {o : Option Nat} {Tb : tb_S} {u : ru_T} {P : Option Value → ab_H → Nat → Prop} {cs ts : List Nat} {x y : Int32}
set_option maxRecDepth 100000 in
theorem fnd_f {p : Nat → Bool} : ∀ (n k : Nat), k + n < 2147483648 → fnd p n k = -1 → ∀ j, k ≤ j → j < k + n → p j = false
  | 0, k, _, _, j, h1, h2 => by omega
  | n + 1, k, hb, h, j, h1, h2 => by
    rw [fnd] at h
    cases hp : p k with
    | true =>
      rw [hp] at h
      exact absurd h (nK_m1 (by omega))
    | false =>
      rw [hp] at h
      by_cases e : j = k
      · rw [e]
        exact hp
      · exact fnd_f n (k + 1) (by omega) h j (by omega) (by omega)
set_option maxRecDepth 100000 in
theorem tbF_o (hb : b < 6) (hz : Tb.1.1 b ≠ 0) (hNm : ∀ q, q < 6 → q ≠ b → Tb.1.1 q ≠ Tb.1.1 b) : tbF Tb.1.1 (Tb.1.1 b) = nI b := by
  have hp : (!decide (Tb.1.1 b = 0) && decide (Tb.1.1 b = Tb.1.1 b)) = true := by
    rw [decide_eq_false hz, decide_eq_true rfl]
    rfl
  rcases fnd_b (fun j => !decide (Tb.1.1 j = 0) && decide (Tb.1.1 j = Tb.1.1 b)) 6 0 with h | ⟨j, h1, _, h3, h4⟩
  · have := fnd_f 6 0 (by omega) h b (by omega) (by omega)
    exact absurd (hp.symm.trans this) (by decide)
  · have hj : j = b := by
      by_cases e : j = b
      · exact e
      · have := hNm j (by omega) e
        simp only [Bool.and_eq_true, decide_eq_true_eq] at h4
        exact absurd h4.2 this
    rw [hj] at h1
    exact h1
set_option maxRecDepth 100000 in
theorem tbF_T (H : TMo C b Tb l o) {v : Int64} (hv : v ≠ Tb.1.1 b) : fnd (fun j => decide (C.1 78 j ≠ 0) && decide (C.2.1 79 j = v)) 6 0 = tbF Tb.1.1 v := fnd_c 6 0 (fun j _ hj => by
  show (decide (C.1 78 j ≠ 0) && decide (C.2.1 79 j = v)) = (!decide (Tb.1.1 j = 0) && decide (Tb.1.1 j = v))
  by_cases hjb : j = b
  · rw [hjb, H.1.2.2.1, decide_eq_false (show ¬ Tb.1.1 b = v from fun e => hv e.symm), Bool.and_false]
    rfl
  · by_cases hz : Tb.1.1 j = 0
    · rw [H.2.2.1 j (by omega) hz, decide_eq_true hz]
      rfl
    · obtain ⟨h1, h2, _⟩ := H.2.1 j (by omega) hz
      rw [h1 hjb, h2, decide_eq_false hz]
      rfl)
/-! the table that is referred to -/
set_option maxRecDepth 100000 in
theorem q35 (hUr : U r) (hr2 : r < 24) (hr1 : ruN Tb.2.2 = nI r) (M : MS B n U V C0 C i nl) (H : TMo C b Tb l (some r)) (hc6 : cs.length ≤ 6) (hok : ∀ i u, Tb.2.2 i = some u → okRu u) (hNm : ∀ q, q < 6 → q ≠ b → Tb.1.1 q ≠ Tb.1.1 b) (R : RU1 C r 4 (nI b) (-1) (nI cs.length) 0 0 0 cs []) : Wd L xs (d + 6) y_218 (35, [(0, .ref 176), (1, .int (nI r))], [], MH C t, 0) (PTI B n U V C0 t b (pb (rTab (tkP B n) Tb.1 i) (fun tb => pb (xpP (tkP B n) 44 tb.2) (fun j4 => rRf2 (tkP B n) Tb b cs tb.1 j4 nl)))) nX := by
  have hk1 : kd B n i ≠ 1 := M.2.1.1
  have hb := H.1.2.1
  by_cases hk : kd B n i = 3
  · have hv : C.2.1 76 7 = vl B n i := by rw [M.2.1.2.2.2.1, hk]; rfl
    have hnm := (H.2.1 b hb H.1.2.2.2).2.1
    by_cases hown : vl B n i = Tb.1.1 b
    · have htb : tbF Tb.1.1 (vl B n i) = nI b := by rw [hown]; exact tbF_o hb H.1.2.2.2 hNm
      have hx : rTab (tkP B n) Tb.1 i = .inr (b, i + 1) := rTab_s hk (by show tbF Tb.1.1 (vl B n i) ≠ -1; rw [htb]; exact nK_m1 (by omega)) (by show (tbF Tb.1.1 (vl B n i)).toNatClampNeg = b; rw [htb]; exact nK_nat (by omega))
      rw [pb_r hx]
      have M1 := MS_I (v := nI b) M (sx_r (V := V) (k := 86) hUr (by omega)) (by omega)
      refine w_p (pc1 := 36) rfl rfl ?_
      refine w_m0 (pc1 := 39) (st1 := .int 0 :: _) rfl rfl (h_gIe (j := 8) rfl rfl rfl rfl rfl (M.2.1.2.1)) rfl ?_
      refine w_f (a := 49) (b := 42) rfl rfl rfl ?_
      refine w_p (pc1 := 43) rfl rfl ?_
      refine w_je (pc1 := 46) (vs := [.ref 176]) (rest := []) (st1 := [.int 1]) (m_207y (d := _) M hk) rfl rfl rfl (fun _ _ => rfl) rfl (by exact cl_v my_207 rfl rfl rfl (Nat.le_of_ble_eq_true rfl) rfl (MH_obj rfl rfl) rfl (by decide) rfl rfl) (by rfl) (Nat.le_of_ble_eq_true rfl) (Nat.le_of_ble_eq_true rfl) rfl (by rfl) ?_
      refine w_t (a := 50) (b := 49) rfl rfl rfl ?_
      refine w_p (pc1 := 51) rfl rfl ?_
      refine w_m0 (pc1 := 54) (st1 := .long (vl B n i) :: _) rfl rfl (h_gJe (j := 7) rfl rfl rfl rfl rfl (hv)) rfl ?_
      refine w_p (pc1 := 55) rfl rfl ?_
      refine w_m0 (pc1 := 58) rfl rfl (h_gC rfl rfl rfl rfl) rfl ?_
      refine w_p (pc1 := 59) rfl rfl ?_
      refine w_m0 (pc1 := 62) (st1 := .int (nI (b)) :: _) rfl rfl (h_gIe (j := 57) rfl rfl rfl rfl rfl (H.1.1)) rfl ?_
      refine w_m0 (pc1 := 63) (st1 := .long (Tb.1.1 b) :: _) rfl rfl (n_lle (e := b) rfl rfl rfl (by omega) (hnm)) rfl ?_
      refine w_p (pc1 := 64) rfl rfl ?_
      refine w_f (a := 74) (b := 67) (lb_ne_f (by exact hown)) rfl rfl ?_
      refine w_p (pc1 := 68) rfl rfl ?_
      refine w_m0 (pc1 := 71) (st1 := .int (nI (b)) :: _) rfl rfl (h_gIe (j := 57) rfl rfl rfl rfl rfl (H.1.1)) rfl ?_
      refine w_p (pc1 := 82) rfl rfl ?_
      refine w_p (pc1 := 83) (al1 := [(2, .int (nI (b))), (0, .ref 176), (1, .int (nI (r)))]) rfl rfl ?_
      refine w_p (pc1 := 84) rfl rfl ?_
      refine w_p (pc1 := 85) (st1 := .int (-1) :: _) rfl rfl ?_
      refine w_t (a := 94) (b := 88) (cb_ne_t (by exact nK_m1 (by omega))) rfl rfl ?_
      refine w_p (pc1 := 95) rfl rfl ?_
      refine w_m0 (pc1 := 98) rfl rfl (h_gC rfl rfl rfl rfl) rfl ?_
      refine w_p (pc1 := 99) rfl rfl ?_
      refine w_p (pc1 := 100) rfl rfl ?_
      refine w_m0 (pc1 := 101) rfl rfl (n_is (e := r) rfl rfl rfl (by omega)) rfl ?_
      refine w_p (pc1 := 102) rfl rfl ?_
      refine w_ji (pc1 := 105) (vs := [.ref 176]) (rest := []) (nS (d := _) M1 (by rw [hk]; decide)) rfl rfl rfl (fun _ _ => rfl) rfl (by exact cl_v my_195 rfl rfl rfl (Nat.le_of_ble_eq_true rfl) rfl (MH_obj rfl rfl) rfl (by decide) rfl rfl) (by rfl) (Nat.le_of_ble_eq_true rfl) (Nat.le_of_ble_eq_true rfl) rfl (fun v h1 d1 hq => ?_) (fun _ _ _ e => e.elim)
      rcases hq with ⟨hv, ⟨C2, ⟨g2, M2, f2⟩, hh⟩, hn⟩ | ⟨hv, ⟨C2, ⟨g2, F2, f2⟩, hh⟩, hn⟩
      · subst hv; subst hh; subst hn
        exact q105 hUr hr2 hr1 M2 (TMo_T (TMo_P H (Or.inl rfl) (fP_I (by omega))) f2) hc6 hb H.1.2.2.2 hok (RU1_T (RU1_g R) f2)
      · subst hv; subst hh; subst hn
        exact q105f F2 hr2 (Or.inr ⟨rfl, ⟨_, ⟨1, i + 1, flS_1 (bdS_b (bdS_x g2 (by decide))) g2, F2⟩, rfl⟩, rfl⟩)
    · have hfn := tbF_T H hown
      by_cases hf : tbF Tb.1.1 (vl B n i) = -1
      · have hx : rTab (tkP B n) Tb.1 i = .inl (4, i) := rTab_4 hk hf
        have F := FS_new (c := 4) M (by decide)
        refine w_p (pc1 := 36) rfl rfl ?_
        refine w_m0 (pc1 := 39) (st1 := .int 0 :: _) rfl rfl (h_gIe (j := 8) rfl rfl rfl rfl rfl (M.2.1.2.1)) rfl ?_
        refine w_f (a := 49) (b := 42) rfl rfl rfl ?_
        refine w_p (pc1 := 43) rfl rfl ?_
        refine w_je (pc1 := 46) (vs := [.ref 176]) (rest := []) (st1 := [.int 1]) (m_207y (d := _) M hk) rfl rfl rfl (fun _ _ => rfl) rfl (by exact cl_v my_207 rfl rfl rfl (Nat.le_of_ble_eq_true rfl) rfl (MH_obj rfl rfl) rfl (by decide) rfl rfl) (by rfl) (Nat.le_of_ble_eq_true rfl) (Nat.le_of_ble_eq_true rfl) rfl (by rfl) ?_
        refine w_t (a := 50) (b := 49) rfl rfl rfl ?_
        refine w_p (pc1 := 51) rfl rfl ?_
        refine w_m0 (pc1 := 54) (st1 := .long (vl B n i) :: _) rfl rfl (h_gJe (j := 7) rfl rfl rfl rfl rfl (hv)) rfl ?_
        refine w_p (pc1 := 55) rfl rfl ?_
        refine w_m0 (pc1 := 58) rfl rfl (h_gC rfl rfl rfl rfl) rfl ?_
        refine w_p (pc1 := 59) rfl rfl ?_
        refine w_m0 (pc1 := 62) (st1 := .int (nI (b)) :: _) rfl rfl (h_gIe (j := 57) rfl rfl rfl rfl rfl (H.1.1)) rfl ?_
        refine w_m0 (pc1 := 63) (st1 := .long (Tb.1.1 b) :: _) rfl rfl (n_lle (e := b) rfl rfl rfl (by omega) (hnm)) rfl ?_
        refine w_p (pc1 := 64) rfl rfl ?_
        refine w_t (a := 74) (b := 67) (lb_ne_t (by exact hown)) rfl rfl ?_
        refine w_p (pc1 := 75) rfl rfl ?_
        refine w_p (pc1 := 76) rfl rfl ?_
        refine w_m0 (pc1 := 79) (st1 := .long (vl B n i) :: _) rfl rfl (h_gJe (j := 7) rfl rfl rfl rfl rfl (hv)) rfl ?_
        refine w_je (pc1 := 82) (vs := [.ref 176, .long (vl B n i)]) (rest := []) (st1 := [.int (-1)]) (m_208r (d := _) (sl := 0) (hfn.trans hf)) rfl rfl rfl (fun _ _ => rfl) rfl (by exact cl_v my_208 rfl rfl rfl (Nat.le_of_ble_eq_true rfl) rfl (MH_obj rfl rfl) rfl (by decide) rfl rfl) (by rfl) (Nat.le_of_ble_eq_true rfl) (Nat.le_of_ble_eq_true rfl) rfl (by rfl) ?_
        refine w_p (pc1 := 83) (al1 := [(2, .int (-1)), (0, .ref 176), (1, .int (nI (r)))]) rfl rfl ?_
        refine w_p (pc1 := 84) rfl rfl ?_
        refine w_p (pc1 := 85) (st1 := .int (-1) :: _) rfl rfl ?_
        refine w_f (a := 94) (b := 88) rfl rfl rfl ?_
        refine w_p (pc1 := 89) rfl rfl ?_
        refine w_p (pc1 := 90) (st1 := .int 4 :: _) rfl rfl ?_
        refine w_je (pc1 := 93) (vs := [.ref 176, .int 4]) (rest := []) (st1 := []) (m_200 (d := _) (sl := 0) (fun z => absurd M.2.1.2.1 z)) rfl rfl rfl (fun _ _ => rfl) rfl (by exact cl_v my_200 rfl rfl rfl (Nat.le_of_ble_eq_true rfl) rfl (MH_obj rfl rfl) rfl (by decide) rfl rfl) (by rfl) (Nat.le_of_ble_eq_true rfl) (Nat.le_of_ble_eq_true rfl) rfl (by rfl) ?_
        refine w_r rfl rfl rfl (fun _ _ => rfl) rfl ?_
        exact Or.inr ⟨rfl, ⟨_, ⟨4, i, flS_n (pb_l hx) hk1, F⟩, rfl⟩, rfl⟩
      · obtain ⟨e, he1, he, hze, he4⟩ := tbF_b hf
        have hx : rTab (tkP B n) Tb.1 i = .inr (e, i + 1) := rTab_s hk hf he4
        rw [pb_r hx]
        have M1 := MS_I (v := nI e) M (sx_r (V := V) (k := 86) hUr (by omega)) (by omega)
        refine w_p (pc1 := 36) rfl rfl ?_
        refine w_m0 (pc1 := 39) (st1 := .int 0 :: _) rfl rfl (h_gIe (j := 8) rfl rfl rfl rfl rfl (M.2.1.2.1)) rfl ?_
        refine w_f (a := 49) (b := 42) rfl rfl rfl ?_
        refine w_p (pc1 := 43) rfl rfl ?_
        refine w_je (pc1 := 46) (vs := [.ref 176]) (rest := []) (st1 := [.int 1]) (m_207y (d := _) M hk) rfl rfl rfl (fun _ _ => rfl) rfl (by exact cl_v my_207 rfl rfl rfl (Nat.le_of_ble_eq_true rfl) rfl (MH_obj rfl rfl) rfl (by decide) rfl rfl) (by rfl) (Nat.le_of_ble_eq_true rfl) (Nat.le_of_ble_eq_true rfl) rfl (by rfl) ?_
        refine w_t (a := 50) (b := 49) rfl rfl rfl ?_
        refine w_p (pc1 := 51) rfl rfl ?_
        refine w_m0 (pc1 := 54) (st1 := .long (vl B n i) :: _) rfl rfl (h_gJe (j := 7) rfl rfl rfl rfl rfl (hv)) rfl ?_
        refine w_p (pc1 := 55) rfl rfl ?_
        refine w_m0 (pc1 := 58) rfl rfl (h_gC rfl rfl rfl rfl) rfl ?_
        refine w_p (pc1 := 59) rfl rfl ?_
        refine w_m0 (pc1 := 62) (st1 := .int (nI (b)) :: _) rfl rfl (h_gIe (j := 57) rfl rfl rfl rfl rfl (H.1.1)) rfl ?_
        refine w_m0 (pc1 := 63) (st1 := .long (Tb.1.1 b) :: _) rfl rfl (n_lle (e := b) rfl rfl rfl (by omega) (hnm)) rfl ?_
        refine w_p (pc1 := 64) rfl rfl ?_
        refine w_t (a := 74) (b := 67) (lb_ne_t (by exact hown)) rfl rfl ?_
        refine w_p (pc1 := 75) rfl rfl ?_
        refine w_p (pc1 := 76) rfl rfl ?_
        refine w_m0 (pc1 := 79) (st1 := .long (vl B n i) :: _) rfl rfl (h_gJe (j := 7) rfl rfl rfl rfl rfl (hv)) rfl ?_
        refine w_je (pc1 := 82) (vs := [.ref 176, .long (vl B n i)]) (rest := []) (st1 := [.int (nI (e))]) (m_208r (d := _) (sl := 0) (hfn.trans he1)) rfl rfl rfl (fun _ _ => rfl) rfl (by exact cl_v my_208 rfl rfl rfl (Nat.le_of_ble_eq_true rfl) rfl (MH_obj rfl rfl) rfl (by decide) rfl rfl) (by rfl) (Nat.le_of_ble_eq_true rfl) (Nat.le_of_ble_eq_true rfl) rfl (by rfl) ?_
        refine w_p (pc1 := 83) (al1 := [(2, .int (nI (e))), (0, .ref 176), (1, .int (nI (r)))]) rfl rfl ?_
        refine w_p (pc1 := 84) rfl rfl ?_
        refine w_p (pc1 := 85) (st1 := .int (-1) :: _) rfl rfl ?_
        refine w_t (a := 94) (b := 88) (cb_ne_t (by exact nK_m1 (by omega))) rfl rfl ?_
        refine w_p (pc1 := 95) rfl rfl ?_
        refine w_m0 (pc1 := 98) rfl rfl (h_gC rfl rfl rfl rfl) rfl ?_
        refine w_p (pc1 := 99) rfl rfl ?_
        refine w_p (pc1 := 100) rfl rfl ?_
        refine w_m0 (pc1 := 101) rfl rfl (n_is (e := r) rfl rfl rfl (by omega)) rfl ?_
        refine w_p (pc1 := 102) rfl rfl ?_
        refine w_ji (pc1 := 105) (vs := [.ref 176]) (rest := []) (nS (d := _) M1 (by rw [hk]; decide)) rfl rfl rfl (fun _ _ => rfl) rfl (by exact cl_v my_195 rfl rfl rfl (Nat.le_of_ble_eq_true rfl) rfl (MH_obj rfl rfl) rfl (by decide) rfl rfl) (by rfl) (Nat.le_of_ble_eq_true rfl) (Nat.le_of_ble_eq_true rfl) rfl (fun v h1 d1 hq => ?_) (fun _ _ _ e => e.elim)
        rcases hq with ⟨hv, ⟨C2, ⟨g2, M2, f2⟩, hh⟩, hn⟩ | ⟨hv, ⟨C2, ⟨g2, F2, f2⟩, hh⟩, hn⟩
        · subst hv; subst hh; subst hn
          exact q105 hUr hr2 hr1 M2 (TMo_T (TMo_P H (Or.inl rfl) (fP_I (by omega))) f2) hc6 he hze hok (RU1_T (RU1_g R) f2)
        · subst hv; subst hh; subst hn
          exact q105f F2 hr2 (Or.inr ⟨rfl, ⟨_, ⟨1, i + 1, flS_1 (bdS_b (bdS_x g2 (by decide))) g2, F2⟩, rfl⟩, rfl⟩)
  · have hx : rTab (tkP B n) Tb.1 i = .inl (2, i) := rTab_2 hk
    have F := FS_new (c := 2) M (by decide)
    refine w_p (pc1 := 36) rfl rfl ?_
    refine w_m0 (pc1 := 39) (st1 := .int 0 :: _) rfl rfl (h_gIe (j := 8) rfl rfl rfl rfl rfl (M.2.1.2.1)) rfl ?_
    refine w_f (a := 49) (b := 42) rfl rfl rfl ?_
    refine w_p (pc1 := 43) rfl rfl ?_
    refine w_je (pc1 := 46) (vs := [.ref 176]) (rest := []) (st1 := [.int 0]) (m_207n (d := _) M hk) rfl rfl rfl (fun _ _ => rfl) rfl (by exact cl_v my_207 rfl rfl rfl (Nat.le_of_ble_eq_true rfl) rfl (MH_obj rfl rfl) rfl (by decide) rfl rfl) (by rfl) (Nat.le_of_ble_eq_true rfl) (Nat.le_of_ble_eq_true rfl) rfl (by rfl) ?_
    refine w_f (a := 50) (b := 49) rfl rfl rfl ?_
    refine w_r rfl rfl rfl (fun _ _ => rfl) rfl ?_
    exact Or.inr ⟨rfl, ⟨_, ⟨2, i, flS_n (pb_l hx) hk1, F⟩, rfl⟩, rfl⟩
set_option maxRecDepth 100000 in
theorem q35f (F : FS B n U V C0 C c i) (H : P none (MH C t) 0) : Wd L xs d y_218 (35, [(0, .ref 176), (1, .int (nI r))], [], MH C t, 0) P nX := by
  have h0 := FS_p F
  refine w_p (pc1 := 36) rfl rfl ?_
  refine w_m0 (pc1 := 39) rfl rfl (h_gI (j := 8) rfl rfl rfl rfl rfl) rfl ?_
  refine w_t (a := 49) (b := 42) (cb_gt_t (by exact h0)) rfl rfl ?_
  refine w_r rfl rfl rfl (fun _ _ => rfl) rfl ?_
  exact H
set_option maxRecDepth 100000 in
theorem m_218 (hUr : U r) (hr2 : r < 24) (hr1 : ruN Tb.2.2 = nI r) (M : MS B n U V C0 C i nl) (H : TMo C b Tb l (some r)) (hok : ∀ i u, Tb.2.2 i = some u → okRu u) (hNm : ∀ q, q < 6 → q ≠ b → Tb.1.1 q ≠ Tb.1.1 b) (R : RU1 C r 4 (nI b) (-1) 0 0 0 0 [] []) : Wd L xs (d + 7) y_218 (0, [(0, .ref 176), (1, .int (nI r))], [], MH C t, 0) (PTI B n U V C0 t b (pb (pb (xpP (tkP B n) 44 i) (fun j => rNam (tkP B n) Tb.1 b 7 [] j)) (fun cs => rRf1 (tkP B n) Tb b cs.1 cs.2 nl))) nX := by
  have hb := H.1.2.1
  refine w_p (pc1 := 1) rfl rfl ?_
  refine w_m0 (pc1 := 4) rfl rfl (h_gC rfl rfl rfl rfl) rfl ?_
  refine w_p (pc1 := 5) rfl rfl ?_
  refine w_p (pc1 := 6) rfl rfl ?_
  refine w_p (pc1 := 7) rfl rfl ?_
  refine w_m0 (pc1 := 10) (st1 := .int (nI (b)) :: _) rfl rfl (h_gIe (j := 57) rfl rfl rfl rfl rfl (H.1.1)) rfl ?_
  refine w_p (pc1 := 11) rfl rfl ?_
  refine w_m0 (pc1 := 14) rfl rfl (h_gC rfl rfl rfl rfl) rfl ?_
  refine w_p (pc1 := 16) (st1 := .int 6 :: _) rfl rfl ?_
  refine w_p (pc1 := 17) rfl rfl ?_
  refine w_imul (pc1 := 18) (u := nI (6)) (v := nI (r)) (z := nI (6 * r)) rfl (nK_mul) rfl ?_
  refine w_ji (pc1 := 21) (vs := [.ref 176, .int (nI (b)), .ref 188, .int (nI (6 * r))]) (rest := [.int (nI (r)), .ref 187]) (m_216_88 (d := _) (b := b) (sc := Tb.1) hUr hr2 M (TMo_B H)) rfl rfl rfl (fun _ _ => rfl) rfl (by exact cl_v my_216 rfl rfl rfl (Nat.le_of_ble_eq_true rfl) rfl (MH_obj rfl rfl) rfl (by decide) rfl rfl) (by rfl) (Nat.le_of_ble_eq_true rfl) (Nat.le_of_ble_eq_true rfl) rfl (fun v h1 d1 hq => ?_) (fun _ _ _ e => e.elim)
  rcases hq with ⟨cs, i3, hv, ⟨C3, ⟨g3, g4, M3, a3, f3⟩, hh⟩, hn⟩ | ⟨a3, hv, ⟨C3, ⟨c3, j3, g3, F3⟩, hh⟩, hn⟩
  · subst hv; subst hh; subst hn
    refine w_m0 (pc1 := 22) rfl rfl (n_is (e := r) rfl rfl rfl (by omega)) rfl ?_
    refine w_p (pc1 := 23) rfl rfl ?_
    refine w_p (pc1 := 25) (st1 := .int 41 :: _) rfl rfl ?_
    refine w_ji (pc1 := 28) (vs := [.ref 176, .int 41]) (rest := []) (m_209 (k := 45) (d := _) (by decide) (by decide) rfl (MS_I (v := nI cs.length) M3 (sx_r (V := V) (k := 87) hUr (by omega)) (by omega))) rfl rfl rfl (fun _ _ => rfl) rfl (by exact cl_v my_209 rfl rfl rfl (Nat.le_of_ble_eq_true rfl) rfl (MH_obj rfl rfl) rfl (by decide) rfl rfl) (by rfl) (Nat.le_of_ble_eq_true rfl) (Nat.le_of_ble_eq_true rfl) rfl (fun v h1 d1 hq => ?_) (fun _ _ _ e => e.elim)
    rcases hq with ⟨hv, ⟨C5, ⟨g5, g5b, M5, f5⟩, hh⟩, hn⟩ | ⟨hv, ⟨C5, ⟨c5, j5, g5, F5, f5⟩, hh⟩, hn⟩
    · subst hv; subst hh; subst hn
      refine w_p (pc1 := 29) rfl rfl ?_
      refine w_m0 (pc1 := 32) (st1 := .long 29807 :: _) rfl rfl rfl rfl ?_
      refine w_ji (pc1 := 35) (vs := [.ref 176, .long 29807]) (rest := []) (m_219 (k := 38) (d := _) (by decide) (by decide) rfl M5) rfl rfl rfl (fun _ _ => rfl) rfl (by exact cl_v my_219 rfl rfl rfl (Nat.le_of_ble_eq_true rfl) rfl (MH_obj rfl rfl) rfl (by decide) rfl rfl) (by rfl) (Nat.le_of_ble_eq_true rfl) (Nat.le_of_ble_eq_true rfl) rfl (fun v h1 d1 hq => ?_) (fun _ _ _ e => e.elim)
      rcases hq with ⟨hv, ⟨C6, ⟨g6, g6b, M6, f6⟩, hh⟩, hn⟩ | ⟨hv, ⟨C6, ⟨c6, j6, g6, F6, f6⟩, hh⟩, hn⟩
      · subst hv; subst hh; subst hn
        rw [pb_r g3]
        unfold rRf1
        rw [pb_r (show xpP (tkP B n) 45 i3 = .inr (i3 + 1) from if_pos g5), pb_r (show xpP (tkP B n) 38 (i3 + 1) = .inr (i3 + 1 + 1) from if_pos g6)]
        exact q35 hUr hr2 hr1 M6 (TMo_T (TMo_T (TMo_P (TMo_P H (Or.inl rfl) (fP_N (Or.inl rfl) f3)) (Or.inl rfl) (fP_I (by omega))) f5) f6) (nam_6 (TMo_B H).2.2.1 g3).1 hok hNm (RU1_T (RU1_T (RU1_m (RU1_8 R f3 a3)) f5) f6)
      · subst hv; subst hh; subst hn
        refine q35f F6 (Or.inr ⟨rfl, ⟨_, ⟨c6, j6, ?_, F6⟩, rfl⟩, rfl⟩)
        rw [pb_r g3]
        unfold rRf1
        rw [pb_r (show xpP (tkP B n) 45 i3 = .inr (i3 + 1) from if_pos g5)]
        exact flS_b g6 (fun q _ hk => bdS_b (bdS_t hk))
    · subst hv; subst hh; subst hn
      refine w_p (pc1 := 29) rfl rfl ?_
      refine w_m0 (pc1 := 32) (st1 := .long 29807 :: _) rfl rfl rfl rfl ?_
      refine w_je (pc1 := 35) (vs := [.ref 176, .long 29807]) (rest := []) (st1 := []) (m_219f (d := _) F5) rfl rfl rfl (fun _ _ => rfl) rfl (by exact cl_v my_219 rfl rfl rfl (Nat.le_of_ble_eq_true rfl) rfl (MH_obj rfl rfl) rfl (by decide) rfl rfl) (by rfl) (Nat.le_of_ble_eq_true rfl) (Nat.le_of_ble_eq_true rfl) rfl (by rfl) ?_
      refine q35f F5 (Or.inr ⟨rfl, ⟨_, ⟨c5, j5, ?_, F5⟩, rfl⟩, rfl⟩)
      rw [pb_r g3]
      exact flS_b g5 (fun q _ hk => bdS_b (bdS_x hk (by decide)))
  · subst hv; subst hh; subst hn
    refine w_m0 (pc1 := 22) rfl rfl (n_is (e := r) rfl rfl rfl (by omega)) rfl ?_
    refine w_p (pc1 := 23) rfl rfl ?_
    refine w_p (pc1 := 25) (st1 := .int 41 :: _) rfl rfl ?_
    refine w_je (pc1 := 28) (vs := [.ref 176, .int 41]) (rest := []) (st1 := []) (m_209f (d := _) (FS_I (v := nI a3) F3 (sx_r (V := V) (k := 87) hUr (by omega)) (by omega))) rfl rfl rfl (fun _ _ => rfl) rfl (by exact cl_v my_209 rfl rfl rfl (Nat.le_of_ble_eq_true rfl) rfl (MH_obj rfl rfl) rfl (by decide) rfl rfl) (by rfl) (Nat.le_of_ble_eq_true rfl) (Nat.le_of_ble_eq_true rfl) rfl (by rfl) ?_
    refine w_p (pc1 := 29) rfl rfl ?_
    refine w_m0 (pc1 := 32) (st1 := .long 29807 :: _) rfl rfl rfl rfl ?_
    refine w_je (pc1 := 35) (vs := [.ref 176, .long 29807]) (rest := []) (st1 := []) (m_219f (d := _) (FS_I (v := nI a3) F3 (sx_r (V := V) (k := 87) hUr (by omega)) (by omega))) rfl rfl rfl (fun _ _ => rfl) rfl (by exact cl_v my_219 rfl rfl rfl (Nat.le_of_ble_eq_true rfl) rfl (MH_obj rfl rfl) rfl (by decide) rfl rfl) (by rfl) (Nat.le_of_ble_eq_true rfl) (Nat.le_of_ble_eq_true rfl) rfl (by rfl) ?_
    exact q35f (FS_I (v := nI a3) F3 (sx_r (V := V) (k := 87) hUr (by omega)) (by omega)) (Or.inr ⟨rfl, ⟨_, ⟨c3, j3, flS_b g3 (fun q _ hk => bdS_b (bdS_x hk (by decide))), (FS_I (v := nI a3) F3 (sx_r (V := V) (k := 87) hUr (by omega)) (by omega))⟩, rfl⟩, rfl⟩)
set_option maxRecDepth 100000 in
theorem rRef_e {K : tv2} (hr : ruN Tb.2.2 ≠ -1) : rRef K Tb b i nl = pb (pb (xpP K 44 (i + 1)) (fun j => rNam K Tb.1 b 7 [] j)) (fun cs => rRf1 K Tb b cs.1 cs.2 nl) := by
  unfold rRef
  rw [if_neg hr, pb_pb]
set_option maxRecDepth 100000 in
theorem m_211_33 (hU : ∀ r, r < 24 → Tb.2.2 r = none → U r) (M : MS B n U V C0 C i nl) (H : TMo C b Tb l none) (hok : ∀ i u, Tb.2.2 i = some u → okRu u) (hNm : ∀ q, q < 6 → q ≠ b → Tb.1.1 q ≠ Tb.1.1 b) (hk : kd B n i = 33) : Wd L xs (d + 8) y_211 (0, [(0, .ref 176)], [], MH C t, 0) (PTI B n U V C0 t b (rRef (tkP B n) Tb b i nl)) nX := by
  have hk1 : kd B n i ≠ 1 := M.2.1.1
  have hb := H.1.2.1
  by_cases hr : ruN Tb.2.2 = -1
  · have hx : rRef (tkP B n) Tb b i nl = .inl (6, i) := if_pos hr
    have F := FS_new (c := 6) M (by decide)
    refine w_p (pc1 := 1) rfl rfl ?_
    refine w_m0 (pc1 := 4) rfl rfl (h_gI (j := 4) rfl rfl rfl rfl rfl) rfl ?_
    refine w_p (pc1 := 5) (st1 := .int 1 :: _) rfl rfl ?_
    refine w_t (a := 13) (b := 8) (cb_ne_t (by exact fun e => absurd ((nm_k M.2.1).1.mp e) (by rw [hk]; decide))) rfl rfl ?_
    refine w_p (pc1 := 14) rfl rfl ?_
    refine w_m0 (pc1 := 17) (st1 := .long 31650994523828857 :: _) rfl rfl rfl rfl ?_
    refine w_je (pc1 := 20) (vs := [.ref 176, .long 31650994523828857]) (rest := []) (st1 := [.int 0]) (m_205f (d := _) (sl := 0) ((wd_k (k := 31) M.2.1 (by decide) (by decide)).trans (decide_eq_false (by rw [hk]; decide)))) rfl rfl rfl (fun _ _ => rfl) rfl (by exact cl_v my_205 rfl rfl rfl (Nat.le_of_ble_eq_true rfl) rfl (MH_obj rfl rfl) rfl (by decide) rfl rfl) (by rfl) (Nat.le_of_ble_eq_true rfl) (Nat.le_of_ble_eq_true rfl) rfl (by rfl) ?_
    refine w_f (a := 33) (b := 23) rfl rfl rfl ?_
    refine w_p (pc1 := 24) rfl rfl ?_
    refine w_m0 (pc1 := 27) (st1 := .long 129117075895653 :: _) rfl rfl rfl rfl ?_
    refine w_je (pc1 := 30) (vs := [.ref 176, .long 129117075895653]) (rest := []) (st1 := [.int 0]) (m_205f (d := _) (sl := 0) ((wd_k (k := 40) M.2.1 (by decide) (by decide)).trans (decide_eq_false (by rw [hk]; decide)))) rfl rfl rfl (fun _ _ => rfl) rfl (by exact cl_v my_205 rfl rfl rfl (Nat.le_of_ble_eq_true rfl) rfl (MH_obj rfl rfl) rfl (by decide) rfl rfl) (by rfl) (Nat.le_of_ble_eq_true rfl) (Nat.le_of_ble_eq_true rfl) rfl (by rfl) ?_
    refine w_t (a := 37) (b := 33) rfl rfl rfl ?_
    refine w_p (pc1 := 38) (st1 := .int 0 :: _) rfl rfl ?_
    refine w_p (pc1 := 39) (al1 := [(1, .int 0), (0, .ref 176)]) rfl rfl ?_
    refine w_p (pc1 := 40) rfl rfl ?_
    refine w_f (a := 69) (b := 43) rfl rfl rfl ?_
    refine w_p (pc1 := 44) rfl rfl ?_
    refine w_m0 (pc1 := 47) (st1 := .long 426953237355 :: _) rfl rfl rfl rfl ?_
    refine w_je (pc1 := 50) (vs := [.ref 176, .long 426953237355]) (rest := []) (st1 := [.int 0]) (m_205f (d := _) (sl := 0) ((wd_k (k := 12) M.2.1 (by decide) (by decide)).trans (decide_eq_false (by rw [hk]; decide)))) rfl rfl rfl (fun _ _ => rfl) rfl (by exact cl_v my_205 rfl rfl rfl (Nat.le_of_ble_eq_true rfl) rfl (MH_obj rfl rfl) rfl (by decide) rfl rfl) (by rfl) (Nat.le_of_ble_eq_true rfl) (Nat.le_of_ble_eq_true rfl) rfl (by rfl) ?_
    refine w_f (a := 69) (b := 53) rfl rfl rfl ?_
    refine w_p (pc1 := 54) rfl rfl ?_
    refine w_m0 (pc1 := 57) (st1 := .long 491327481202 :: _) rfl rfl rfl rfl ?_
    refine w_je (pc1 := 60) (vs := [.ref 176, .long 491327481202]) (rest := []) (st1 := [.int 1]) (m_205t (d := _) (sl := 0) ((wd_k (k := 33) M.2.1 (by decide) (by decide)).trans (decide_eq_true hk))) rfl rfl rfl (fun _ _ => rfl) rfl (by exact cl_v my_205 rfl rfl rfl (Nat.le_of_ble_eq_true rfl) rfl (MH_obj rfl rfl) rfl (by decide) rfl rfl) (by rfl) (Nat.le_of_ble_eq_true rfl) (Nat.le_of_ble_eq_true rfl) rfl (by rfl) ?_
    refine w_t (a := 69) (b := 63) rfl rfl rfl ?_
    refine w_p (pc1 := 70) rfl rfl ?_
    refine w_p (pc1 := 71) rfl rfl ?_
    refine w_m0 (pc1 := 74) (st1 := .long 31650994523828857 :: _) rfl rfl rfl rfl ?_
    refine w_je (pc1 := 77) (vs := [.ref 176, .long 31650994523828857]) (rest := [.ref 176]) (st1 := [.int 0, .ref 176]) (m_205f (d := _) (sl := 0) ((wd_k (k := 31) M.2.1 (by decide) (by decide)).trans (decide_eq_false (by rw [hk]; decide)))) rfl rfl rfl (fun _ _ => rfl) rfl (by exact cl_v my_205 rfl rfl rfl (Nat.le_of_ble_eq_true rfl) rfl (MH_obj rfl rfl) rfl (by decide) rfl rfl) (by rfl) (Nat.le_of_ble_eq_true rfl) (Nat.le_of_ble_eq_true rfl) rfl (by rfl) ?_
    refine w_t (a := 84) (b := 80) rfl rfl rfl ?_
    refine w_p (pc1 := 85) rfl rfl ?_
    refine w_m0 (pc1 := 88) (st1 := .long 129117075895653 :: _) rfl rfl rfl rfl ?_
    refine w_je (pc1 := 91) (vs := [.ref 176, .long 129117075895653]) (rest := [.ref 176]) (st1 := [.int 0, .ref 176]) (m_205f (d := _) (sl := 0) ((wd_k (k := 40) M.2.1 (by decide) (by decide)).trans (decide_eq_false (by rw [hk]; decide)))) rfl rfl rfl (fun _ _ => rfl) rfl (by exact cl_v my_205 rfl rfl rfl (Nat.le_of_ble_eq_true rfl) rfl (MH_obj rfl rfl) rfl (by decide) rfl rfl) (by rfl) (Nat.le_of_ble_eq_true rfl) (Nat.le_of_ble_eq_true rfl) rfl (by rfl) ?_
    refine w_t (a := 98) (b := 94) rfl rfl rfl ?_
    refine w_p (pc1 := 99) rfl rfl ?_
    refine w_m0 (pc1 := 102) (st1 := .long 426953237355 :: _) rfl rfl rfl rfl ?_
    refine w_je (pc1 := 105) (vs := [.ref 176, .long 426953237355]) (rest := [.ref 176]) (st1 := [.int 0, .ref 176]) (m_205f (d := _) (sl := 0) ((wd_k (k := 12) M.2.1 (by decide) (by decide)).trans (decide_eq_false (by rw [hk]; decide)))) rfl rfl rfl (fun _ _ => rfl) rfl (by exact cl_v my_205 rfl rfl rfl (Nat.le_of_ble_eq_true rfl) rfl (MH_obj rfl rfl) rfl (by decide) rfl rfl) (by rfl) (Nat.le_of_ble_eq_true rfl) (Nat.le_of_ble_eq_true rfl) rfl (by rfl) ?_
    refine w_t (a := 112) (b := 108) rfl rfl rfl ?_
    refine w_p (pc1 := 113) (st1 := .int 4 :: _) rfl rfl ?_
    refine w_je (pc1 := 116) (vs := [.ref 176, .int 4]) (rest := []) (st1 := [.int 0]) (m_214f (d := _) M H hr) rfl rfl rfl (fun _ _ => rfl) rfl (by exact cl_v my_214 rfl rfl rfl (Nat.le_of_ble_eq_true rfl) rfl (MH_obj rfl rfl) rfl (by decide) rfl rfl) (by rfl) (Nat.le_of_ble_eq_true rfl) (Nat.le_of_ble_eq_true rfl) rfl (by rfl) ?_
    refine w_p (pc1 := 117) (al1 := [(2, .int 0), (1, .int 0), (0, .ref 176)]) rfl rfl ?_
    refine w_p (pc1 := 118) rfl rfl ?_
    refine w_m0 (pc1 := 121) (st1 := .int 6 :: _) rfl rfl (h_gIe (j := 8) rfl rfl rfl rfl rfl (F.1.2.1)) rfl ?_
    refine w_f (a := 125) (b := 124) rfl rfl rfl ?_
    refine w_r rfl rfl rfl (fun _ _ => rfl) rfl ?_
    exact Or.inr ⟨rfl, ⟨_, ⟨6, i, flS_n hx hk1, F⟩, rfl⟩, rfl⟩
  · obtain ⟨r, hr1, hr2, hr3⟩ := ruN_s hr
    have hUr := hU r hr2 hr3
    rw [rRef_e hr]
    refine w_p (pc1 := 1) rfl rfl ?_
    refine w_m0 (pc1 := 4) rfl rfl (h_gI (j := 4) rfl rfl rfl rfl rfl) rfl ?_
    refine w_p (pc1 := 5) (st1 := .int 1 :: _) rfl rfl ?_
    refine w_t (a := 13) (b := 8) (cb_ne_t (by exact fun e => absurd ((nm_k M.2.1).1.mp e) (by rw [hk]; decide))) rfl rfl ?_
    refine w_p (pc1 := 14) rfl rfl ?_
    refine w_m0 (pc1 := 17) (st1 := .long 31650994523828857 :: _) rfl rfl rfl rfl ?_
    refine w_je (pc1 := 20) (vs := [.ref 176, .long 31650994523828857]) (rest := []) (st1 := [.int 0]) (m_205f (d := _) (sl := 0) ((wd_k (k := 31) M.2.1 (by decide) (by decide)).trans (decide_eq_false (by rw [hk]; decide)))) rfl rfl rfl (fun _ _ => rfl) rfl (by exact cl_v my_205 rfl rfl rfl (Nat.le_of_ble_eq_true rfl) rfl (MH_obj rfl rfl) rfl (by decide) rfl rfl) (by rfl) (Nat.le_of_ble_eq_true rfl) (Nat.le_of_ble_eq_true rfl) rfl (by rfl) ?_
    refine w_f (a := 33) (b := 23) rfl rfl rfl ?_
    refine w_p (pc1 := 24) rfl rfl ?_
    refine w_m0 (pc1 := 27) (st1 := .long 129117075895653 :: _) rfl rfl rfl rfl ?_
    refine w_je (pc1 := 30) (vs := [.ref 176, .long 129117075895653]) (rest := []) (st1 := [.int 0]) (m_205f (d := _) (sl := 0) ((wd_k (k := 40) M.2.1 (by decide) (by decide)).trans (decide_eq_false (by rw [hk]; decide)))) rfl rfl rfl (fun _ _ => rfl) rfl (by exact cl_v my_205 rfl rfl rfl (Nat.le_of_ble_eq_true rfl) rfl (MH_obj rfl rfl) rfl (by decide) rfl rfl) (by rfl) (Nat.le_of_ble_eq_true rfl) (Nat.le_of_ble_eq_true rfl) rfl (by rfl) ?_
    refine w_t (a := 37) (b := 33) rfl rfl rfl ?_
    refine w_p (pc1 := 38) (st1 := .int 0 :: _) rfl rfl ?_
    refine w_p (pc1 := 39) (al1 := [(1, .int 0), (0, .ref 176)]) rfl rfl ?_
    refine w_p (pc1 := 40) rfl rfl ?_
    refine w_f (a := 69) (b := 43) rfl rfl rfl ?_
    refine w_p (pc1 := 44) rfl rfl ?_
    refine w_m0 (pc1 := 47) (st1 := .long 426953237355 :: _) rfl rfl rfl rfl ?_
    refine w_je (pc1 := 50) (vs := [.ref 176, .long 426953237355]) (rest := []) (st1 := [.int 0]) (m_205f (d := _) (sl := 0) ((wd_k (k := 12) M.2.1 (by decide) (by decide)).trans (decide_eq_false (by rw [hk]; decide)))) rfl rfl rfl (fun _ _ => rfl) rfl (by exact cl_v my_205 rfl rfl rfl (Nat.le_of_ble_eq_true rfl) rfl (MH_obj rfl rfl) rfl (by decide) rfl rfl) (by rfl) (Nat.le_of_ble_eq_true rfl) (Nat.le_of_ble_eq_true rfl) rfl (by rfl) ?_
    refine w_f (a := 69) (b := 53) rfl rfl rfl ?_
    refine w_p (pc1 := 54) rfl rfl ?_
    refine w_m0 (pc1 := 57) (st1 := .long 491327481202 :: _) rfl rfl rfl rfl ?_
    refine w_je (pc1 := 60) (vs := [.ref 176, .long 491327481202]) (rest := []) (st1 := [.int 1]) (m_205t (d := _) (sl := 0) ((wd_k (k := 33) M.2.1 (by decide) (by decide)).trans (decide_eq_true hk))) rfl rfl rfl (fun _ _ => rfl) rfl (by exact cl_v my_205 rfl rfl rfl (Nat.le_of_ble_eq_true rfl) rfl (MH_obj rfl rfl) rfl (by decide) rfl rfl) (by rfl) (Nat.le_of_ble_eq_true rfl) (Nat.le_of_ble_eq_true rfl) rfl (by rfl) ?_
    refine w_t (a := 69) (b := 63) rfl rfl rfl ?_
    refine w_p (pc1 := 70) rfl rfl ?_
    refine w_p (pc1 := 71) rfl rfl ?_
    refine w_m0 (pc1 := 74) (st1 := .long 31650994523828857 :: _) rfl rfl rfl rfl ?_
    refine w_je (pc1 := 77) (vs := [.ref 176, .long 31650994523828857]) (rest := [.ref 176]) (st1 := [.int 0, .ref 176]) (m_205f (d := _) (sl := 0) ((wd_k (k := 31) M.2.1 (by decide) (by decide)).trans (decide_eq_false (by rw [hk]; decide)))) rfl rfl rfl (fun _ _ => rfl) rfl (by exact cl_v my_205 rfl rfl rfl (Nat.le_of_ble_eq_true rfl) rfl (MH_obj rfl rfl) rfl (by decide) rfl rfl) (by rfl) (Nat.le_of_ble_eq_true rfl) (Nat.le_of_ble_eq_true rfl) rfl (by rfl) ?_
    refine w_t (a := 84) (b := 80) rfl rfl rfl ?_
    refine w_p (pc1 := 85) rfl rfl ?_
    refine w_m0 (pc1 := 88) (st1 := .long 129117075895653 :: _) rfl rfl rfl rfl ?_
    refine w_je (pc1 := 91) (vs := [.ref 176, .long 129117075895653]) (rest := [.ref 176]) (st1 := [.int 0, .ref 176]) (m_205f (d := _) (sl := 0) ((wd_k (k := 40) M.2.1 (by decide) (by decide)).trans (decide_eq_false (by rw [hk]; decide)))) rfl rfl rfl (fun _ _ => rfl) rfl (by exact cl_v my_205 rfl rfl rfl (Nat.le_of_ble_eq_true rfl) rfl (MH_obj rfl rfl) rfl (by decide) rfl rfl) (by rfl) (Nat.le_of_ble_eq_true rfl) (Nat.le_of_ble_eq_true rfl) rfl (by rfl) ?_
    refine w_t (a := 98) (b := 94) rfl rfl rfl ?_
    refine w_p (pc1 := 99) rfl rfl ?_
    refine w_m0 (pc1 := 102) (st1 := .long 426953237355 :: _) rfl rfl rfl rfl ?_
    refine w_je (pc1 := 105) (vs := [.ref 176, .long 426953237355]) (rest := [.ref 176]) (st1 := [.int 0, .ref 176]) (m_205f (d := _) (sl := 0) ((wd_k (k := 12) M.2.1 (by decide) (by decide)).trans (decide_eq_false (by rw [hk]; decide)))) rfl rfl rfl (fun _ _ => rfl) rfl (by exact cl_v my_205 rfl rfl rfl (Nat.le_of_ble_eq_true rfl) rfl (MH_obj rfl rfl) rfl (by decide) rfl rfl) (by rfl) (Nat.le_of_ble_eq_true rfl) (Nat.le_of_ble_eq_true rfl) rfl (by rfl) ?_
    refine w_t (a := 112) (b := 108) rfl rfl rfl ?_
    refine w_p (pc1 := 113) (st1 := .int 4 :: _) rfl rfl ?_
    refine w_ji (pc1 := 116) (vs := [.ref 176, .int 4]) (rest := []) (m_214 (d := _) (z := 4) hUr M H hr1 hr2 hr3) rfl rfl rfl (fun _ _ => rfl) rfl (by exact cl_v my_214 rfl rfl rfl (Nat.le_of_ble_eq_true rfl) rfl (MH_obj rfl rfl) rfl (by decide) rfl rfl) (by rfl) (Nat.le_of_ble_eq_true rfl) (Nat.le_of_ble_eq_true rfl) rfl (fun v h1 d1 hq => ?_) (fun _ _ _ e => e.elim)
    rcases hq with ⟨hv, ⟨C1, ⟨M1, H1, R0, e40⟩, hh⟩, hn⟩
    · subst hv; subst hh; subst hn
      refine w_p (pc1 := 117) (al1 := [(2, .int (nI (r))), (1, .int 0), (0, .ref 176)]) rfl rfl ?_
      refine w_p (pc1 := 118) rfl rfl ?_
      refine w_m0 (pc1 := 121) (st1 := .int 0 :: _) rfl rfl (h_gIe (j := 8) rfl rfl rfl rfl rfl (M1.2.1.2.1)) rfl ?_
      refine w_t (a := 125) (b := 124) rfl rfl rfl ?_
      refine w_p (pc1 := 126) rfl rfl ?_
      refine w_ji (pc1 := 129) (vs := [.ref 176]) (rest := []) (nS (d := _) M1 (by rw [hk]; decide)) rfl rfl rfl (fun _ _ => rfl) rfl (by exact cl_v my_195 rfl rfl rfl (Nat.le_of_ble_eq_true rfl) rfl (MH_obj rfl rfl) rfl (by decide) rfl rfl) (by rfl) (Nat.le_of_ble_eq_true rfl) (Nat.le_of_ble_eq_true rfl) rfl (fun v h1 d1 hq => ?_) (fun _ _ _ e => e.elim)
      rcases hq with ⟨hv, ⟨C2, ⟨g2, M2, f2⟩, hh⟩, hn⟩ | ⟨hv, ⟨C2, ⟨g2, F2, f2⟩, hh⟩, hn⟩
      · subst hv; subst hh; subst hn
        refine w_p (pc1 := 130) rfl rfl ?_
        refine w_m0 (pc1 := 133) (st1 := .int 0 :: _) rfl rfl (h_gIe (j := 8) rfl rfl rfl rfl rfl (M2.2.1.2.1)) rfl ?_
        refine w_t (a := 137) (b := 136) rfl rfl rfl ?_
        refine w_p (pc1 := 138) rfl rfl ?_
        refine w_t (a := 177) (b := 141) rfl rfl rfl ?_
        refine w_p (pc1 := 178) rfl rfl ?_
        refine w_m0 (pc1 := 181) rfl rfl (h_gC rfl rfl rfl rfl) rfl ?_
        refine w_p (pc1 := 182) rfl rfl ?_
        refine w_m0 (pc1 := 183) (st1 := .int 4 :: _) rfl rfl (n_ile (e := r) rfl rfl rfl (by omega) ((f2.1 84 r (by omega)).trans R0.1)) rfl ?_
        refine w_p (pc1 := 184) (st1 := .int 4 :: _) rfl rfl ?_
        refine w_f (a := 195) (b := 187) rfl rfl rfl ?_
        refine w_p (pc1 := 188) rfl rfl ?_
        refine w_p (pc1 := 189) rfl rfl ?_
        refine w_ji (pc1 := 192) (vs := [.ref 176, .int (nI (r))]) (rest := []) (m_218 (d := _) hUr hr2 hr1 M2 (TMo_T H1 f2) hok hNm (RU1_T (RU1_0 R0) f2)) rfl rfl rfl (fun _ _ => rfl) rfl (by exact cl_v my_218 rfl rfl rfl (Nat.le_of_ble_eq_true rfl) rfl (MH_obj rfl rfl) rfl (by decide) rfl rfl) (by rfl) (Nat.le_of_ble_eq_true rfl) (Nat.le_of_ble_eq_true rfl) rfl (fun v h1 d1 hq => ?_) (fun _ _ _ e => e.elim)
        rcases hq with ⟨hv, ⟨C3, g3, hh⟩, hn⟩ | ⟨hv, ⟨C3, g3, hh⟩, hn⟩
        · subst hv; subst hh; subst hn
          refine w_p (pc1 := 254) rfl rfl ?_
          refine w_r rfl rfl rfl (fun _ _ => rfl) rfl ?_
          exact Or.inl ⟨rfl, ⟨_, g3, rfl⟩, rfl⟩
        · subst hv; subst hh; subst hn
          refine w_p (pc1 := 254) rfl rfl ?_
          refine w_r rfl rfl rfl (fun _ _ => rfl) rfl ?_
          exact Or.inr ⟨rfl, ⟨_, g3, rfl⟩, rfl⟩
      · subst hv; subst hh; subst hn
        refine w_p (pc1 := 130) rfl rfl ?_
        refine w_m0 (pc1 := 133) (st1 := .int 1 :: _) rfl rfl (h_gIe (j := 8) rfl rfl rfl rfl rfl (F2.1.2.1)) rfl ?_
        refine w_f (a := 137) (b := 136) rfl rfl rfl ?_
        refine w_r rfl rfl rfl (fun _ _ => rfl) rfl ?_
        exact Or.inr ⟨rfl, ⟨_, ⟨1, i + 1, flS_1 (bdS_b (bdS_b (bdS_x g2 (by decide)))) g2, F2⟩, rfl⟩, rfl⟩
end MTI
