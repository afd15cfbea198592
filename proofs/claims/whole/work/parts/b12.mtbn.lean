
/-! THE OTHER SIDE READS A TABLE, 12: its name -/
section MTL
variable {L : Nat} {xs : Nat → Int32} {B : Nat → Nat} {n : Nat} {C C' C0 C1 : co_T} {t : ab_H} {d i i0 i1 j b e p k w q : Nat} {U V : Nat → Prop} {c : Int32} {sc : sc_T} {row : Option Nat} {tg : Option (Nat × Nat)} {nl : Option Nat} {E : fe_T} {tr : Nat → Option tr_T}
variable {r a : Nat} {l : List Nat} {o : Option Nat} {Tb : tb_S} {u : ru_T} {P : Option Value → ab_H → Nat → Prop} {x : Int32}
set_option maxRecDepth 100000 in
theorem tbN_M (H : TM0 C Tb) : fnd (fun j => decide (C.1 78 j = 0)) 6 0 = tbN Tb.1.1 := fnd_c 6 0 (fun j _ hj => by
  show decide (C.1 78 j = 0) = decide (Tb.1.1 j = 0)
  by_cases hz : Tb.1.1 j = 0
  · rw [H.2.1 j (by omega) hz, decide_eq_true hz]
    rfl
  · rw [(H.1 j (by omega) hz).1, decide_eq_false hz]
    rfl)
set_option maxRecDepth 100000 in
theorem lp_206n (H : ∀ q, q ≤ 6 → (q < 6 → C.1 78 q = 0 ∧ fnd (fun j => decide (C.1 78 j = 0)) 6 0 = nI q) → (q = 6 → fnd (fun j => decide (C.1 78 j = 0)) 6 0 = -1) → Wd L xs d y_206 (35, [(1, .int (nI q)), (0, .ref 176)], [], MH C t, 0) P nX) : ∀ m k : Nat, k + m = 6 → fnd (fun j => decide (C.1 78 j = 0)) m k = fnd (fun j => decide (C.1 78 j = 0)) 6 0 → Wd L xs d y_206 (14, [(1, .int (nI k)), (0, .ref 176)], [], MH C t, 0) P nX
  | 0, k, hk, he => by
    obtain rfl : k = 6 := by omega
    refine w_p (pc1 := 15) rfl rfl ?_
    refine w_p (pc1 := 17) (st1 := .int 6 :: _) rfl rfl ?_
    refine w_t (a := 35) (b := 20) rfl rfl rfl ?_
    exact H 6 (by omega) (fun h => absurd h (by decide)) (fun _ => he.symm)
  | m + 1, k, hk, he => by
    by_cases h1 : C.1 78 k = 0
    · have e : fnd (fun j => decide (C.1 78 j = 0)) (m + 1) k = nI k := by rw [fnd, decide_eq_true h1, cond_true]
      refine w_p (pc1 := 15) rfl rfl ?_
      refine w_p (pc1 := 17) (st1 := .int 6 :: _) rfl rfl ?_
      refine w_f (a := 35) (b := 20) (bN_ge_f (a := k) (b := 6) (by omega) (by omega) (by omega)) rfl rfl ?_
      refine w_p (pc1 := 21) rfl rfl ?_
      refine w_m0 (pc1 := 24) rfl rfl (h_gC rfl rfl rfl rfl) rfl ?_
      refine w_p (pc1 := 25) rfl rfl ?_
      refine w_m0 (pc1 := 26) rfl rfl (n_bl (e := k) rfl rfl (by decide) rfl (by omega)) rfl ?_
      refine w_t (a := 35) (b := 29) (cb_eq_t (by exact h1)) rfl rfl ?_
      exact H k (by omega) (fun _ => ⟨h1, he.symm.trans e⟩) (fun h => by omega)
    · have e : fnd (fun j => decide (C.1 78 j = 0)) (m + 1) k = fnd (fun j => decide (C.1 78 j = 0)) m (k + 1) := by rw [fnd, decide_eq_false h1, cond_false]
      refine w_p (pc1 := 15) rfl rfl ?_
      refine w_p (pc1 := 17) (st1 := .int 6 :: _) rfl rfl ?_
      refine w_f (a := 35) (b := 20) (bN_ge_f (a := k) (b := 6) (by omega) (by omega) (by omega)) rfl rfl ?_
      refine w_p (pc1 := 21) rfl rfl ?_
      refine w_m0 (pc1 := 24) rfl rfl (h_gC rfl rfl rfl rfl) rfl ?_
      refine w_p (pc1 := 25) rfl rfl ?_
      refine w_m0 (pc1 := 26) rfl rfl (n_bl (e := k) rfl rfl (by decide) rfl (by omega)) rfl ?_
      refine w_f (a := 35) (b := 29) (cb_eq_f (by exact h1)) rfl rfl ?_
      refine w_iinc (pc1 := 32) (u := nI (k)) (z := nI (k + 1)) (al1 := [(1, .int (nI (k + 1))), (0, .ref 176)]) rfl rfl rfl nK_1 rfl rfl ?_
      refine w_p (pc1 := 14) rfl rfl ?_
      exact lp_206n H m (k + 1) (by omega) (e.symm.trans he)
def PTT (B : Nat → Nat) (n : Nat) (U V : Nat → Prop) (C0 : co_T) (t : ab_H) (Tb : tb_S) (x : pz_T (tb_S × Nat × Option Nat)) : Option Value → ab_H → Nat → Prop := fun v h m => (∃ b, none = v ∧ (∃ C', (∃ T' l' i' nl', x = .inr (T', i', nl') ∧ (b < 6 ∧ tbN Tb.1.1 = nI b) ∧ kd B n i' ≠ 1 ∧ MS B n U V C0 C' i' nl' ∧ TMo C' b T' l' none) ∧ MH C' t = h) ∧ 0 = m) ∨ (none = v ∧ (∃ C', (∃ c j, flS B n (fun y : tb_S × Nat × Option Nat => y.2.1) x c j ∧ FS B n U V C0 C' c j) ∧ MH C' t = h) ∧ 0 = m)
set_option maxRecDepth 100000 in
theorem PTT_i {x : pz_T (tb_S × Nat × Option Nat)} (hb : b < 6) (hn : tbN Tb.1.1 = nI b) : ∀ v h m, PTI B n U V C0 t b x v h m → PTT B n U V C0 t Tb x v h m := by
  intro v h m hq
  rcases hq with ⟨hv, ⟨C', ⟨T', l', i', nl', h1, h2⟩, hh⟩, hm⟩ | hq
  · exact Or.inl ⟨b, hv, ⟨C', ⟨T', l', i', nl', h1, ⟨hb, hn⟩, h2⟩, hh⟩, hm⟩
  · exact Or.inr hq
set_option maxRecDepth 100000 in
theorem e206 (hU0 : ∀ r, r < 24 → C0.1 83 r = 0 → U r) (hV : ∀ b, b < 6 → Tb.1.1 b = 0 → V b) (M : MS B n U V C0 C i none) (H : TM0 C Tb) (hok : ∀ i u, Tb.2.2 i = some u → okRu u) (hW : wok Tb) (hW0 : ∀ q, q < 6 → Tb.1.1 q = 0 → Tb.1.2.1 q = 0) (hk : kd B n i = 3) (h43 : C.1 76 43 = nI a) (h42 : C.1 76 42 = 0) (ha : a + k = 400) (hq6 : q ≤ 6) (hq1 : q < 6 → C.1 78 q = 0 ∧ fnd (fun j => decide (C.1 78 j = 0)) 6 0 = nI q) (hq2 : q = 6 → fnd (fun j => decide (C.1 78 j = 0)) 6 0 = -1) : Wd L xs (d + 11) y_206 (35, [(1, .int (nI q)), (0, .ref 176)], [], MH C t, 0) (PTT B n U V C0 t Tb (pb (rNew (tkP B n) (tbF Tb.1.1) (tbN Tb.1.1) i) (fun nm => rTb1 (tkP B n) (nwT Tb (tbN Tb.1.1).toNatClampNeg nm.1) (tbN Tb.1.1).toNatClampNeg nm.2 (some k)))) nX := by
  have hk1 : kd B n i ≠ 1 := M.2.1.1
  have hv : C.2.1 76 7 = vl B n i := by rw [M.2.1.2.2.2.1, hk]; rfl
  have hfn := tbF_M (TM0_S H) (vl B n i)
  have hnn := tbN_M H
  by_cases hf : tbF Tb.1.1 (vl B n i) = -1
  · by_cases h8 : q = 6
    · have hn : tbN Tb.1.1 = -1 := hnn.symm.trans (hq2 h8)
      have hx : rNew (tkP B n) (tbF Tb.1.1) (tbN Tb.1.1) i = .inl (6, i) := by
        unfold rNew
        rw [if_pos (show (tkP B n).1 i = 3 from hk), if_pos (show tbF Tb.1.1 ((tkP B n).2 i) = -1 from hf), if_pos hn]
      have F := FS_new (c := 6) M (by decide)
      refine w_p (pc1 := 36) rfl rfl ?_
      refine w_p (pc1 := 37) rfl rfl ?_
      refine w_m0 (pc1 := 40) (st1 := .long (vl B n i) :: _) rfl rfl (h_gJe (j := 7) rfl rfl rfl rfl rfl (hv)) rfl ?_
      refine w_je (pc1 := 43) (vs := [.ref 176, .long (vl B n i)]) (rest := []) (st1 := [.int (-1)]) (m_208r (d := _) (sl := 0) (hfn.trans hf)) rfl rfl rfl (fun _ _ => rfl) rfl (by exact cl_v my_208 rfl rfl rfl (Nat.le_of_ble_eq_true rfl) rfl (MH_obj rfl rfl) rfl (by decide) rfl rfl) (by rfl) (Nat.le_of_ble_eq_true rfl) (Nat.le_of_ble_eq_true rfl) rfl (by rfl) ?_
      refine w_p (pc1 := 44) (st1 := .int (-1) :: _) rfl rfl ?_
      refine w_t (a := 52) (b := 47) rfl rfl rfl ?_
      refine w_p (pc1 := 53) rfl rfl ?_
      refine w_p (pc1 := 55) (st1 := .int 6 :: _) rfl rfl ?_
      refine w_f (a := 64) (b := 58) (bN_ne_f (a := q) (b := 6) (by omega) (by omega) (by omega)) rfl rfl ?_
      refine w_p (pc1 := 59) rfl rfl ?_
      refine w_p (pc1 := 61) (st1 := .int 6 :: _) rfl rfl ?_
      refine w_je (pc1 := 64) (vs := [.ref 176, .int 6]) (rest := []) (st1 := []) (m_200 (d := _) (sl := 0) (fun z => absurd M.2.1.2.1 z)) rfl rfl rfl (fun _ _ => rfl) rfl (by exact cl_v my_200 rfl rfl rfl (Nat.le_of_ble_eq_true rfl) rfl (MH_obj rfl rfl) rfl (by decide) rfl rfl) (by rfl) (Nat.le_of_ble_eq_true rfl) (Nat.le_of_ble_eq_true rfl) rfl (by rfl) ?_
      refine w_p (pc1 := 65) rfl rfl ?_
      refine w_m0 (pc1 := 68) (st1 := .int 6 :: _) rfl rfl (h_gIe (j := 8) rfl rfl rfl rfl rfl (F.1.2.1)) rfl ?_
      refine w_f (a := 72) (b := 71) rfl rfl rfl ?_
      refine w_r rfl rfl rfl (fun _ _ => rfl) rfl ?_
      exact Or.inr ⟨rfl, ⟨_, ⟨6, i, flS_n (pb_l hx) hk1, F⟩, rfl⟩, rfl⟩
    · have hq6 : q < 6 := by omega
      have hn : tbN Tb.1.1 = nI q := hnn.symm.trans (hq1 hq6).2
      have hnc : (tbN Tb.1.1).toNatClampNeg = q := by rw [hn]; exact nK_nat (by omega)
      have hx : rNew (tkP B n) (tbF Tb.1.1) (tbN Tb.1.1) i = .inr (vl B n i, i + 1) := by
        unfold rNew
        rw [if_pos (show (tkP B n).1 i = 3 from hk), if_pos (show tbF Tb.1.1 ((tkP B n).2 i) = -1 from hf), if_neg (by rw [hn]; exact nK_m1 (by omega))]
        rfl
      rw [pb_r hx, hnc]
      have hz : Tb.1.1 q = 0 := by
        by_cases h : Tb.1.1 q = 0
        · exact h
        · have := (H.1 q hq6 h).1
          rw [(hq1 hq6).1] at this
          exact absurd this (by decide)
      have hVq := hV q hq6 hz
      have hvz := nam_nz hk
      have M1 : MS B n U V C0 (sI (sI (sJ (sI C 76 57 (nI q)) 79 q (vl B n i)) 80 q 0) 76 58 0) i none := MS_I (MS_I (MS_J (MS_I M (sx_76 (by omega)) (by omega)) (Or.inr (Or.inr (Or.inr (Or.inr (Or.inl ⟨rfl, hVq⟩))))) (by omega)) (sx_t hVq) (by omega)) (sx_76 (by omega)) (by omega)
      have M2 : MS B n U V C0 (nwM C q (vl B n i)) i (some k) := MS_k M1 (a := a) (by rw [sI_1, if_neg (by omega), sI_1, if_neg (by omega), sJ_1, sI_1, if_neg (by omega)]; exact h43) (by rw [sI_1, if_neg (by omega), sI_1, if_neg (by omega), sJ_1, sI_1, if_neg (by omega)]; exact h42) ha
      have H2 := TM0_w (v := vl B n i) H hq6 hz (hW0 q hq6 hz) hvz
      have hNm : ∀ j, j < 6 → j ≠ q → (nwT Tb q (vl B n i)).1.1 j ≠ (nwT Tb q (vl B n i)).1.1 q := by
        intro j hj hjq
        show (if j = q then vl B n i else Tb.1.1 j) ≠ (if q = q then vl B n i else Tb.1.1 q)
        rw [if_neg hjq, if_pos rfl]
        intro e
        have h1 := fnd_f 6 0 (by omega) hf j (by omega) (by omega)
        simp only [e] at h1
        rw [decide_eq_false hvz] at h1
        simp at h1
      refine w_p (pc1 := 36) rfl rfl ?_
      refine w_p (pc1 := 37) rfl rfl ?_
      refine w_m0 (pc1 := 40) (st1 := .long (vl B n i) :: _) rfl rfl (h_gJe (j := 7) rfl rfl rfl rfl rfl (hv)) rfl ?_
      refine w_je (pc1 := 43) (vs := [.ref 176, .long (vl B n i)]) (rest := []) (st1 := [.int (-1)]) (m_208r (d := _) (sl := 0) (hfn.trans hf)) rfl rfl rfl (fun _ _ => rfl) rfl (by exact cl_v my_208 rfl rfl rfl (Nat.le_of_ble_eq_true rfl) rfl (MH_obj rfl rfl) rfl (by decide) rfl rfl) (by rfl) (Nat.le_of_ble_eq_true rfl) (Nat.le_of_ble_eq_true rfl) rfl (by rfl) ?_
      refine w_p (pc1 := 44) (st1 := .int (-1) :: _) rfl rfl ?_
      refine w_t (a := 52) (b := 47) rfl rfl rfl ?_
      refine w_p (pc1 := 53) rfl rfl ?_
      refine w_p (pc1 := 55) (st1 := .int 6 :: _) rfl rfl ?_
      refine w_t (a := 64) (b := 58) (bN_ne_t (a := q) (b := 6) (by omega) (by omega) (by omega)) rfl rfl ?_
      refine w_p (pc1 := 65) rfl rfl ?_
      refine w_m0 (pc1 := 68) (st1 := .int 0 :: _) rfl rfl (h_gIe (j := 8) rfl rfl rfl rfl rfl (M.2.1.2.1)) rfl ?_
      refine w_t (a := 72) (b := 71) rfl rfl rfl ?_
      refine w_p (pc1 := 73) rfl rfl ?_
      refine w_p (pc1 := 74) rfl rfl ?_
      refine w_m0 (pc1 := 77) rfl rfl (h_pI (j := 57) rfl rfl rfl rfl rfl rfl rfl ⟨rfl, rfl⟩ rfl) rfl ?_
      refine w_p (pc1 := 78) rfl rfl ?_
      refine w_m0 (pc1 := 81) rfl rfl (h_gC rfl rfl rfl rfl) rfl ?_
      refine w_p (pc1 := 82) rfl rfl ?_
      refine w_p (pc1 := 83) rfl rfl ?_
      refine w_m0 (pc1 := 86) (st1 := .long (vl B n i) :: _) rfl rfl (h_gJe (j := 7) rfl rfl rfl rfl rfl (hv)) rfl ?_
      refine w_m0 (pc1 := 87) rfl rfl (n_ls (e := q) rfl rfl rfl (by omega)) rfl ?_
      refine w_p (pc1 := 88) rfl rfl ?_
      refine w_m0 (pc1 := 91) rfl rfl (h_gC rfl rfl rfl rfl) rfl ?_
      refine w_p (pc1 := 92) rfl rfl ?_
      refine w_p (pc1 := 93) (st1 := .int 0 :: _) rfl rfl ?_
      refine w_m0 (pc1 := 94) rfl rfl (n_is (e := q) rfl rfl rfl (by omega)) rfl ?_
      refine w_p (pc1 := 95) rfl rfl ?_
      refine w_p (pc1 := 96) (st1 := .int 0 :: _) rfl rfl ?_
      refine w_m0 (pc1 := 99) rfl rfl (h_pI (j := 58) rfl rfl rfl rfl rfl rfl rfl ⟨rfl, rfl⟩ rfl) rfl ?_
      refine w_p (pc1 := 100) rfl rfl ?_
      refine w_p (pc1 := 101) (st1 := .int 1 :: _) rfl rfl ?_
      refine w_m0 (pc1 := 104) rfl rfl (h_pI (j := 44) rfl rfl rfl rfl rfl rfl rfl ⟨rfl, rfl⟩ rfl) rfl ?_
      refine w_p (pc1 := 105) rfl rfl ?_
      refine w_ji (pc1 := 108) (vs := [.ref 176]) (rest := []) (nS (d := _) M2 (by rw [hk]; decide)) rfl rfl rfl (fun _ _ => rfl) rfl (by exact cl_v my_195 rfl rfl rfl (Nat.le_of_ble_eq_true rfl) rfl (MH_obj rfl rfl) rfl (by decide) rfl rfl) (by rfl) (Nat.le_of_ble_eq_true rfl) (Nat.le_of_ble_eq_true rfl) rfl (fun v h1 d1 hq => ?_) (fun _ _ _ e => e.elim)
      rcases hq with ⟨hv, ⟨C3, ⟨g3, M3, f3⟩, hh⟩, hn4⟩ | ⟨hv, ⟨C3, ⟨g3, F3, f3⟩, hh⟩, hn4⟩
      · subst hv; subst hh; subst hn4
        refine w_p (pc1 := 109) rfl rfl ?_
        refine w_p (pc1 := 111) (st1 := .int 40 :: _) rfl rfl ?_
        refine w_ji (pc1 := 114) (vs := [.ref 176, .int 40]) (rest := []) (m_209 (k := 44) (d := _) (by decide) (by decide) rfl M3) rfl rfl rfl (fun _ _ => rfl) rfl (by exact cl_v my_209 rfl rfl rfl (Nat.le_of_ble_eq_true rfl) rfl (MH_obj rfl rfl) rfl (by decide) rfl rfl) (by rfl) (Nat.le_of_ble_eq_true rfl) (Nat.le_of_ble_eq_true rfl) rfl (fun v h1 d1 hq => ?_) (fun _ _ _ e => e.elim)
        rcases hq with ⟨hv, ⟨C4, ⟨g4, g4b, M4, f4⟩, hh⟩, hn4⟩ | ⟨hv, ⟨C4, ⟨c4, j4, g4, F4, f4⟩, hh⟩, hn4⟩
        · subst hv; subst hh; subst hn4
          refine w_p (pc1 := 115) rfl rfl ?_
          refine w_m0 (pc1 := 118) rfl rfl (h_gI (j := 8) rfl rfl rfl rfl rfl) rfl ?_
          refine w_f (a := 125) (b := 121) (cb_ne_f (by exact M4.2.1.2.1)) rfl rfl ?_
          refine w_p (pc1 := 122) (st1 := .int 1 :: _) rfl rfl ?_
          refine w_p (pc1 := 126) rfl rfl ?_
          refine w_p (pc1 := 127) (al1 := [(2, .int 1), (1, .int (nI (q))), (0, .ref 176)]) rfl rfl ?_
          obtain ⟨m, hm1, hm2, hm3⟩ := M4.2.2.2.2.1.2
          show Wd L xs _ _ _ (PTT B n U V C0 t Tb (pb (xpP (tkP B n) 44 (i + 1)) (fun j => pb (rItm (tkP B n) (nwT Tb q (vl B n i)) q j (some k)) (fun x => rIts (tkP B n) q 600 x.1 x.2.1 x.2.2)))) _
          rw [pb_r (show xpP (tkP B n) 44 (i + 1) = .inr (i + 1 + 1) from if_pos g4)]
          exact Wd_q (lp_206 hU0 hVq hm1 hm2 600 (i + 1 + 1) k C4 (nwT Tb q (vl B n i)) [] M4 (TMo_T (TMo_T H2 f3) f4) hok hNm hW hm3 (by omega)) (PTT_i hq6 hn) (fun _ _ _ e => e)
        · subst hv; subst hh; subst hn4
          refine w_p (pc1 := 115) rfl rfl ?_
          refine w_m0 (pc1 := 118) rfl rfl (h_gI (j := 8) rfl rfl rfl rfl rfl) rfl ?_
          refine w_t (a := 125) (b := 121) (cb_ne_t (by exact FS_0 F4)) rfl rfl ?_
          refine w_p (pc1 := 126) (st1 := .int 0 :: _) rfl rfl ?_
          refine w_p (pc1 := 127) (al1 := [(2, .int 0), (1, .int (nI (q))), (0, .ref 176)]) rfl rfl ?_
          refine t127f F4 (Or.inr ⟨rfl, ⟨_, ⟨c4, j4, ?_, F4⟩, rfl⟩, rfl⟩)
          exact flS_b g4 (fun a _ hk => bdS_b (bd_itm hk))
      · subst hv; subst hh; subst hn4
        refine w_p (pc1 := 109) rfl rfl ?_
        refine w_p (pc1 := 111) (st1 := .int 40 :: _) rfl rfl ?_
        refine w_je (pc1 := 114) (vs := [.ref 176, .int 40]) (rest := []) (st1 := []) (m_209f (d := _) F3) rfl rfl rfl (fun _ _ => rfl) rfl (by exact cl_v my_209 rfl rfl rfl (Nat.le_of_ble_eq_true rfl) rfl (MH_obj rfl rfl) rfl (by decide) rfl rfl) (by rfl) (Nat.le_of_ble_eq_true rfl) (Nat.le_of_ble_eq_true rfl) rfl (by rfl) ?_
        refine w_p (pc1 := 115) rfl rfl ?_
        refine w_m0 (pc1 := 118) rfl rfl (h_gI (j := 8) rfl rfl rfl rfl rfl) rfl ?_
        refine w_t (a := 125) (b := 121) (cb_ne_t (by exact FS_0 F3)) rfl rfl ?_
        refine w_p (pc1 := 126) (st1 := .int 0 :: _) rfl rfl ?_
        refine w_p (pc1 := 127) (al1 := [(2, .int 0), (1, .int (nI (q))), (0, .ref 176)]) rfl rfl ?_
        exact t127f F3 (Or.inr ⟨rfl, ⟨_, ⟨1, i + 1, flS_1 (bdS_b (bdS_x g3 (by decide))) g3, F3⟩, rfl⟩, rfl⟩)
  · have hx : rNew (tkP B n) (tbF Tb.1.1) (tbN Tb.1.1) i = .inl (3, i) := by
      unfold rNew
      rw [if_pos (show (tkP B n).1 i = 3 from hk), if_neg (show ¬ tbF Tb.1.1 ((tkP B n).2 i) = -1 from hf)]
    have F := FS_new (c := 3) M (by decide)
    refine w_p (pc1 := 36) rfl rfl ?_
    refine w_p (pc1 := 37) rfl rfl ?_
    refine w_m0 (pc1 := 40) (st1 := .long (vl B n i) :: _) rfl rfl (h_gJe (j := 7) rfl rfl rfl rfl rfl (hv)) rfl ?_
    refine w_je (pc1 := 43) (vs := [.ref 176, .long (vl B n i)]) (rest := []) (st1 := [.int (tbF Tb.1.1 (vl B n i))]) (m_208r (d := _) (sl := 0) hfn) rfl rfl rfl (fun _ _ => rfl) rfl (by exact cl_v my_208 rfl rfl rfl (Nat.le_of_ble_eq_true rfl) rfl (MH_obj rfl rfl) rfl (by decide) rfl rfl) (by rfl) (Nat.le_of_ble_eq_true rfl) (Nat.le_of_ble_eq_true rfl) rfl (by rfl) ?_
    refine w_p (pc1 := 44) (st1 := .int (-1) :: _) rfl rfl ?_
    refine w_f (a := 52) (b := 47) (cb_eq_f (by exact hf)) rfl rfl ?_
    refine w_p (pc1 := 48) rfl rfl ?_
    refine w_p (pc1 := 49) (st1 := .int 3 :: _) rfl rfl ?_
    refine w_je (pc1 := 52) (vs := [.ref 176, .int 3]) (rest := []) (st1 := []) (m_200 (d := _) (sl := 0) (fun z => absurd M.2.1.2.1 z)) rfl rfl rfl (fun _ _ => rfl) rfl (by exact cl_v my_200 rfl rfl rfl (Nat.le_of_ble_eq_true rfl) rfl (MH_obj rfl rfl) rfl (by decide) rfl rfl) (by rfl) (Nat.le_of_ble_eq_true rfl) (Nat.le_of_ble_eq_true rfl) rfl (by rfl) ?_
    refine w_p (pc1 := 53) rfl rfl ?_
    refine w_p (pc1 := 55) (st1 := .int 6 :: _) rfl rfl ?_
    refine w_b (a := 64) (b := 58) rfl rfl (fun c55 => ?_) (fun c55 => ?_)
    · replace c55 := cN_ne_t (a := q) (b := 6) (by omega) (by omega) c55
      refine w_p (pc1 := 65) rfl rfl ?_
      refine w_m0 (pc1 := 68) (st1 := .int 3 :: _) rfl rfl (h_gIe (j := 8) rfl rfl rfl rfl rfl (F.1.2.1)) rfl ?_
      refine w_f (a := 72) (b := 71) rfl rfl rfl ?_
      refine w_r rfl rfl rfl (fun _ _ => rfl) rfl ?_
      exact Or.inr ⟨rfl, ⟨_, ⟨3, i, flS_n (pb_l hx) hk1, F⟩, rfl⟩, rfl⟩
    · replace c55 := cN_ne_f (a := q) (b := 6) (by omega) (by omega) c55
      refine w_p (pc1 := 59) rfl rfl ?_
      refine w_p (pc1 := 61) (st1 := .int 6 :: _) rfl rfl ?_
      refine w_je (pc1 := 64) (vs := [.ref 176, .int 6]) (rest := []) (st1 := []) (hF (d := _) (c' := 6) F (by decide)) rfl rfl rfl (fun _ _ => rfl) rfl (by exact cl_v my_200 rfl rfl rfl (Nat.le_of_ble_eq_true rfl) rfl (MH_obj rfl rfl) rfl (by decide) rfl rfl) (by rfl) (Nat.le_of_ble_eq_true rfl) (Nat.le_of_ble_eq_true rfl) rfl (by rfl) ?_
      refine w_p (pc1 := 65) rfl rfl ?_
      refine w_m0 (pc1 := 68) (st1 := .int 3 :: _) rfl rfl (h_gIe (j := 8) rfl rfl rfl rfl rfl (F.1.2.1)) rfl ?_
      refine w_f (a := 72) (b := 71) rfl rfl rfl ?_
      refine w_r rfl rfl rfl (fun _ _ => rfl) rfl ?_
      exact Or.inr ⟨rfl, ⟨_, ⟨3, i, flS_n (pb_l hx) hk1, F⟩, rfl⟩, rfl⟩
set_option maxRecDepth 100000 in
theorem m_206 (hU0 : ∀ r, r < 24 → C0.1 83 r = 0 → U r) (hV : ∀ b, b < 6 → Tb.1.1 b = 0 → V b) (M : MS B n U V C0 C i none) (H : TM0 C Tb) (hok : ∀ i u, Tb.2.2 i = some u → okRu u) (hW : wok Tb) (hW0 : ∀ q, q < 6 → Tb.1.1 q = 0 → Tb.1.2.1 q = 0) (hk : kd B n i = 37) (h43 : C.1 76 43 = nI a) (h42 : C.1 76 42 = 0) (ha : a + k = 400) : Wd L xs (d + 11) y_206 (0, [(0, .ref 176)], [], MH C t, 0) (PTT B n U V C0 t Tb (rTbl (tkP B n) Tb i (some k))) nX := by
  unfold rTbl
  by_cases h3 : kd B n (i + 1) = 3
  · skip
    refine w_p (pc1 := 1) rfl rfl ?_
    refine w_ji (pc1 := 4) (vs := [.ref 176]) (rest := []) (nS (d := _) M (by rw [hk]; decide)) rfl rfl rfl (fun _ _ => rfl) rfl (by exact cl_v my_195 rfl rfl rfl (Nat.le_of_ble_eq_true rfl) rfl (MH_obj rfl rfl) rfl (by decide) rfl rfl) (by rfl) (Nat.le_of_ble_eq_true rfl) (Nat.le_of_ble_eq_true rfl) rfl (fun v h1 d1 hq => ?_) (fun _ _ _ e => e.elim)
    rcases hq with ⟨hv, ⟨C1, ⟨g1, M1, f1⟩, hh⟩, hn⟩ | ⟨hv, ⟨C1, ⟨g1, F1, f1⟩, hh⟩, hn⟩
    · subst hv; subst hh; subst hn
      refine w_p (pc1 := 5) rfl rfl ?_
      refine w_je (pc1 := 8) (vs := [.ref 176]) (rest := []) (st1 := [.int 1]) (m_207y (d := _) M1 h3) rfl rfl rfl (fun _ _ => rfl) rfl (by exact cl_v my_207 rfl rfl rfl (Nat.le_of_ble_eq_true rfl) rfl (MH_obj rfl rfl) rfl (by decide) rfl rfl) (by rfl) (Nat.le_of_ble_eq_true rfl) (Nat.le_of_ble_eq_true rfl) rfl (by rfl) ?_
      refine w_t (a := 12) (b := 11) rfl rfl rfl ?_
      refine w_p (pc1 := 13) (st1 := .int 0 :: _) rfl rfl ?_
      refine w_p (pc1 := 14) (al1 := [(1, .int 0), (0, .ref 176)]) rfl rfl ?_
      exact lp_206n (fun q h1 h2 h4 => e206 hU0 hV M1 (TM0_T H f1) hok hW hW0 h3 ((f1.1 76 43 (by omega)).trans h43) ((f1.1 76 42 (by omega)).trans h42) ha h1 h2 h4) 6 0 (by omega) rfl
    · subst hv; subst hh; subst hn
      refine w_p (pc1 := 5) rfl rfl ?_
      refine w_je (pc1 := 8) (vs := [.ref 176]) (rest := []) (st1 := [.int 0]) (m_207f (d := _) F1) rfl rfl rfl (fun _ _ => rfl) rfl (by exact cl_v my_207 rfl rfl rfl (Nat.le_of_ble_eq_true rfl) rfl (MH_obj rfl rfl) rfl (by decide) rfl rfl) (by rfl) (Nat.le_of_ble_eq_true rfl) (Nat.le_of_ble_eq_true rfl) rfl (by rfl) ?_
      refine w_f (a := 12) (b := 11) rfl rfl rfl ?_
      refine w_r rfl rfl rfl (fun _ _ => rfl) rfl ?_
      exact Or.inr ⟨rfl, ⟨_, ⟨1, i + 1, flS_1 (bdS_b (bd_new g1)) g1, F1⟩, rfl⟩, rfl⟩
  · skip
    refine w_p (pc1 := 1) rfl rfl ?_
    refine w_ji (pc1 := 4) (vs := [.ref 176]) (rest := []) (nS (d := _) M (by rw [hk]; decide)) rfl rfl rfl (fun _ _ => rfl) rfl (by exact cl_v my_195 rfl rfl rfl (Nat.le_of_ble_eq_true rfl) rfl (MH_obj rfl rfl) rfl (by decide) rfl rfl) (by rfl) (Nat.le_of_ble_eq_true rfl) (Nat.le_of_ble_eq_true rfl) rfl (fun v h1 d1 hq => ?_) (fun _ _ _ e => e.elim)
    rcases hq with ⟨hv, ⟨C1, ⟨g1, M1, f1⟩, hh⟩, hn⟩ | ⟨hv, ⟨C1, ⟨g1, F1, f1⟩, hh⟩, hn⟩
    · subst hv; subst hh; subst hn
      refine w_p (pc1 := 5) rfl rfl ?_
      refine w_je (pc1 := 8) (vs := [.ref 176]) (rest := []) (st1 := [.int 0]) (m_207n (d := _) M1 h3) rfl rfl rfl (fun _ _ => rfl) rfl (by exact cl_v my_207 rfl rfl rfl (Nat.le_of_ble_eq_true rfl) rfl (MH_obj rfl rfl) rfl (by decide) rfl rfl) (by rfl) (Nat.le_of_ble_eq_true rfl) (Nat.le_of_ble_eq_true rfl) rfl (by rfl) ?_
      refine w_f (a := 12) (b := 11) rfl rfl rfl ?_
      refine w_r rfl rfl rfl (fun _ _ => rfl) rfl ?_
      exact Or.inr ⟨rfl, ⟨_, ⟨2, i + 1, flS_n (pb_l (show rNew (tkP B n) (tbF Tb.1.1) (tbN Tb.1.1) (i + 1) = .inl (2, i + 1) from if_neg h3)) g1, FS_new M1 (by decide)⟩, rfl⟩, rfl⟩
    · subst hv; subst hh; subst hn
      refine w_p (pc1 := 5) rfl rfl ?_
      refine w_je (pc1 := 8) (vs := [.ref 176]) (rest := []) (st1 := [.int 0]) (m_207f (d := _) F1) rfl rfl rfl (fun _ _ => rfl) rfl (by exact cl_v my_207 rfl rfl rfl (Nat.le_of_ble_eq_true rfl) rfl (MH_obj rfl rfl) rfl (by decide) rfl rfl) (by rfl) (Nat.le_of_ble_eq_true rfl) (Nat.le_of_ble_eq_true rfl) rfl (by rfl) ?_
      refine w_f (a := 12) (b := 11) rfl rfl rfl ?_
      refine w_r rfl rfl rfl (fun _ _ => rfl) rfl ?_
      exact Or.inr ⟨rfl, ⟨_, ⟨1, i + 1, flS_1 (bdS_b (bd_new g1)) g1, F1⟩, rfl⟩, rfl⟩
end MTL
