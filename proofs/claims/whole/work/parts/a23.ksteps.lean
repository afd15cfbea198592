
/-! ONE SIDE'S ENGINE: steps -/
section KE7
variable {L : Nat} {xs : Nat → Int32} {C : co_T} {t : ab_H} {d sl D w2 k k0 b c i n E : Nat} {S : st_T} {N O : rw_F} {σ : es_T} {i0 : Int32}
set_option maxRecDepth 100000 in
theorem lp_136_2 {C0 : co_T} {t0 : ab_H} (ho : okSt S) (hS : STP L xs S n (D + 1)) (hD : D < 13) (hb6 : b < 6) : ∀ (m i : Nat) (C : co_T) (t : ab_H) (σ : es_T), i + m = 24 → KB C t S σ D w2 (sWd S b) N O → frE D (D + 1) C0 C → stk t0 t → Wd L xs (4 * n + 12 + 2) y_136 (3, [(5, .int (nI (i))), (0, .ref 124), (1, .int (nI (b))), (2, .int (i0)), (3, .int 2), (4, .int (nI (D)))], [], MH C t, sl) (PR C0 t0 (sWd S) D (D + 1) sl (lop (fol1 S (stp S n) b 2 i0 O N) (rng i m) σ)) (XR C0 t0 D (D + 1) sl (lop (fol1 S (stp S n) b 2 i0 O N) (rng i m) σ))
  | 0, i, C, t, σ, hi, B, hf, hst => by
    obtain rfl : i = 24 := by omega
    refine w_p (pc1 := 5) rfl rfl ?_
    refine w_p (pc1 := 7) (st1 := .int 24 :: _) rfl rfl ?_
    refine w_t (a := 106) (b := 10) (bN_ge_t (a := 24) (b := 24) (by omega) (by omega) (by omega)) rfl rfl ?_
    refine w_r rfl rfl rfl (fun _ _ => rfl) rfl ?_
    exact ⟨rfl, rfl, ⟨C, t, ⟨B.2.1, hf, hst⟩, rfl⟩, rfl⟩
  | m + 1, i, C, t, σ, hi, B, hf, hst => by
    have ih := fun C' t' σ' => lp_136_2 (C0 := C0) (t0 := t0) ho hS hD hb6 m (i + 1) C' t' σ' (by omega)
    have hop := B.1.2.1 i (by omega)
    have er : rng i (m + 1) = i :: rng (i + 1) m := rfl
    rw [er]
    have e0 : fol1 S (stp S n) b 2 i0 O N i σ = match sRu S i with | none => (σ, none) | some u => (if rTg u = some b ∧ tch 2 (rOs u) O N = true ∧ dos 2 u ≠ 0 then lop (rf1 S (stp S n) i u (dos 2 u) 2 i0 O N) (rids u O (σ.1 (rTb u)).1) σ else (σ, none)) := rfl
    cases hG : sRu S i with
    | none =>
      rw [hG] at hop
      have e1 : fol1 S (stp S n) b 2 i0 O N i σ = (σ, none) := by rw [e0, hG]
      rw [lop_n e1]
      refine w_p (pc1 := 5) rfl rfl ?_
      refine w_p (pc1 := 7) (st1 := .int 24 :: _) rfl rfl ?_
      refine w_f (a := 106) (b := 10) (bN_ge_f (a := i) (b := 24) (by omega) (by omega) (by omega)) rfl rfl ?_
      refine w_p (pc1 := 11) rfl rfl ?_
      refine w_m0 (pc1 := 14) rfl rfl (h_gC rfl rfl rfl rfl) rfl ?_
      refine w_p (pc1 := 16) rfl rfl ?_
      refine w_je (pc1 := 19) (vs := [.ref 106, .int (nI (i))]) (rest := []) (st1 := [.null]) (m_96_n (d := 4 * n + 13) (sl := 0) (by omega) hop) rfl rfl rfl (fun _ _ => rfl) rfl (by exact cl_v my_96 rfl rfl rfl (Nat.le_of_ble_eq_true rfl) rfl (MH_obj rfl rfl) rfl (by decide) rfl rfl) (by rfl) (Nat.le_of_ble_eq_true rfl) (Nat.le_of_ble_eq_true rfl) rfl (by rfl) ?_
      refine w_p (pc1 := 21) (al1 := [(6, .null), (5, .int (nI (i))), (0, .ref 124), (1, .int (nI (b))), (2, .int (i0)), (3, .int 2), (4, .int (nI (D)))]) rfl rfl ?_
      refine w_p (pc1 := 23) rfl rfl ?_
      refine w_t (a := 100) (b := 26) rfl rfl rfl ?_
      refine w_iinc (pc1 := 103) (u := nI (i)) (z := nI (i + 1)) (al1 := [(5, .int (nI (i + 1))), (6, .null), (0, .ref 124), (1, .int (nI (b))), (2, .int (i0)), (3, .int 2), (4, .int (nI (D)))]) rfl rfl rfl nK_1 rfl rfl ?_
      refine w_p (pc1 := 3) rfl rfl ?_
      refine Wd_al (al := [(5, .int (nI (i + 1))), (0, .ref 124), (1, .int (nI (b))), (2, .int (i0)), (3, .int 2), (4, .int (nI (D)))]) (sba_p [0, 2, 3, 4, 5, 6] rfl rfl) ?_
      exact ih C t σ B hf hst
    | some u =>
      rw [hG] at hop
      obtain ⟨kg, hkg, U0⟩ := hop
      obtain ⟨kc, kt, fc, ft, vw, U, hck⟩ := id U0
      have hR := ho.2.1 i u (by omega) hG
      have hU := U.1
      have hw6 := ho.1 b hb6
      cases hg : rTg u with
      | none =>
        rw [hg] at hU
        have e1 : fol1 S (stp S n) b 2 i0 O N i σ = (σ, none) := by rw [e0, hG]; exact if_neg (by rw [hg]; intro z; cases z.1)
        rw [lop_n e1]
        refine w_p (pc1 := 5) rfl rfl ?_
        refine w_p (pc1 := 7) (st1 := .int 24 :: _) rfl rfl ?_
        refine w_f (a := 106) (b := 10) (bN_ge_f (a := i) (b := 24) (by omega) (by omega) (by omega)) rfl rfl ?_
        refine w_p (pc1 := 11) rfl rfl ?_
        refine w_m0 (pc1 := 14) rfl rfl (h_gC rfl rfl rfl rfl) rfl ?_
        refine w_p (pc1 := 16) rfl rfl ?_
        refine w_je (pc1 := 19) (vs := [.ref 106, .int (nI (i))]) (rest := []) (st1 := [.ref (241 + kg)]) (m_96_s (d := 4 * n + 13) (sl := 0) (by omega) hkg) rfl rfl rfl (fun _ _ => rfl) rfl (by exact cl_v my_96 rfl rfl rfl (Nat.le_of_ble_eq_true rfl) rfl (MH_obj rfl rfl) rfl (by decide) rfl rfl) (by rfl) (Nat.le_of_ble_eq_true rfl) (Nat.le_of_ble_eq_true rfl) rfl (by rfl) ?_
        refine w_p (pc1 := 21) (al1 := [(6, .ref (241 + kg)), (5, .int (nI (i))), (0, .ref 124), (1, .int (nI (b))), (2, .int (i0)), (3, .int 2), (4, .int (nI (D)))]) rfl rfl ?_
        refine w_p (pc1 := 23) rfl rfl ?_
        refine w_f (a := 100) (b := 26) rfl rfl rfl ?_
        refine w_p (pc1 := 28) rfl rfl ?_
        refine w_m0 (pc1 := 31) (st1 := .int (-1) :: _) rfl rfl (x_gf (k := kg) rfl hU rfl) rfl ?_
        refine w_p (pc1 := 32) rfl rfl ?_
        refine w_t (a := 100) (b := 35) (cb_ne_t (by exact (nK_m1 (by omega)).symm)) rfl rfl ?_
        refine w_iinc (pc1 := 103) (u := nI (i)) (z := nI (i + 1)) (al1 := [(5, .int (nI (i + 1))), (6, .ref (241 + kg)), (0, .ref 124), (1, .int (nI (b))), (2, .int (i0)), (3, .int 2), (4, .int (nI (D)))]) rfl rfl rfl nK_1 rfl rfl ?_
        refine w_p (pc1 := 3) rfl rfl ?_
        refine Wd_al (al := [(5, .int (nI (i + 1))), (0, .ref 124), (1, .int (nI (b))), (2, .int (i0)), (3, .int 2), (4, .int (nI (D)))]) (sba_p [0, 2, 3, 4, 5, 6] rfl rfl) ?_
        exact ih C t σ B hf hst
      | some b2 =>
        rw [hg] at hU
        have hK : rKd u = 4 := by
          by_cases h : rKd u = 4
          · exact h
          · have := hR.2.2.1 h
            rw [hg] at this
            cases this
        obtain ⟨⟨b9, hb9, hb2, hb3⟩, hll⟩ := hR.2.1 hK
        rw [hg] at hb9
        cases hb9
        by_cases hbb : b2 = b
        · subst hbb
          have htc := m_137d (L := L) (xs := xs) (d := 4 * n + 13) (sl := 0) (kr := 31 + D) (l := []) (O := O) (N := N) (skO (by omega)) U hR hK hg hw6 B.2.2.2.2
          cases hx : tch 2 (rOs u) O N with
          | false =>
            rw [hx] at htc
            have e1 : fol1 S (stp S n) b2 2 i0 O N i σ = (σ, none) := by rw [e0, hG]; exact if_neg (by rw [hx]; intro z; cases z.2.1)
            rw [lop_n e1]
            refine w_p (pc1 := 5) rfl rfl ?_
            refine w_p (pc1 := 7) (st1 := .int 24 :: _) rfl rfl ?_
            refine w_f (a := 106) (b := 10) (bN_ge_f (a := i) (b := 24) (by omega) (by omega) (by omega)) rfl rfl ?_
            refine w_p (pc1 := 11) rfl rfl ?_
            refine w_m0 (pc1 := 14) rfl rfl (h_gC rfl rfl rfl rfl) rfl ?_
            refine w_p (pc1 := 16) rfl rfl ?_
            refine w_je (pc1 := 19) (vs := [.ref 106, .int (nI (i))]) (rest := []) (st1 := [.ref (241 + kg)]) (m_96_s (d := 4 * n + 13) (sl := 0) (by omega) hkg) rfl rfl rfl (fun _ _ => rfl) rfl (by exact cl_v my_96 rfl rfl rfl (Nat.le_of_ble_eq_true rfl) rfl (MH_obj rfl rfl) rfl (by decide) rfl rfl) (by rfl) (Nat.le_of_ble_eq_true rfl) (Nat.le_of_ble_eq_true rfl) rfl (by rfl) ?_
            refine w_p (pc1 := 21) (al1 := [(6, .ref (241 + kg)), (5, .int (nI (i))), (0, .ref 124), (1, .int (nI (b2))), (2, .int (i0)), (3, .int 2), (4, .int (nI (D)))]) rfl rfl ?_
            refine w_p (pc1 := 23) rfl rfl ?_
            refine w_f (a := 100) (b := 26) rfl rfl rfl ?_
            refine w_p (pc1 := 28) rfl rfl ?_
            refine w_m0 (pc1 := 31) (st1 := .int (nI (b2)) :: _) rfl rfl (x_gf (k := kg) rfl hU rfl) rfl ?_
            refine w_p (pc1 := 32) rfl rfl ?_
            refine w_f (a := 100) (b := 35) (bN_ne_f (a := b2) (b := b2) (by omega) (by omega) (by omega)) rfl rfl ?_
            refine w_p (pc1 := 37) rfl rfl ?_
            refine w_p (pc1 := 38) rfl rfl ?_
            refine w_m0 (pc1 := 41) rfl rfl (h_gC rfl rfl rfl rfl) rfl ?_
            refine w_p (pc1 := 43) rfl rfl ?_
            refine w_m0 (pc1 := 44) (st1 := .ref (31 + D + 100) :: _) rfl rfl (n_als (e := D) rfl rfl (by decide) rfl (by omega) (KS_ol B.1 (by omega))) rfl ?_
            refine w_p (pc1 := 45) rfl rfl ?_
            refine w_p (pc1 := 46) (st1 := .int 2 :: _) rfl rfl ?_
            refine w_f (a := 53) (b := 49) rfl rfl rfl ?_
            refine w_p (pc1 := 50) rfl rfl ?_
            refine w_p (pc1 := 60) rfl rfl ?_
            refine w_je (pc1 := 63) (vs := [.ref (241 + kg), .ref (31 + D + 100), .null]) (rest := []) (st1 := [.int 0]) (htc) rfl rfl rfl (fun _ _ => rfl) rfl (by exact cl_v my_137 rfl rfl rfl (Nat.le_of_ble_eq_true rfl) rfl (x_obj hU) rfl (by decide) rfl rfl) (by rfl) (Nat.le_of_ble_eq_true rfl) (Nat.le_of_ble_eq_true rfl) rfl (by rfl) ?_
            refine w_t (a := 100) (b := 66) rfl rfl rfl ?_
            refine w_iinc (pc1 := 103) (u := nI (i)) (z := nI (i + 1)) (al1 := [(5, .int (nI (i + 1))), (6, .ref (241 + kg)), (0, .ref 124), (1, .int (nI (b2))), (2, .int (i0)), (3, .int 2), (4, .int (nI (D)))]) rfl rfl rfl nK_1 rfl rfl ?_
            refine w_p (pc1 := 3) rfl rfl ?_
            refine Wd_al (al := [(5, .int (nI (i + 1))), (0, .ref 124), (1, .int (nI (b2))), (2, .int (i0)), (3, .int 2), (4, .int (nI (D)))]) (sba_p [0, 2, 3, 4, 5, 6] rfl rfl) ?_
            exact ih C t σ B hf hst
          | true =>
            rw [hx] at htc
            by_cases hd0 : dos 2 u = 0
            · have hd1 : rDl u = 0 := hd0
              rw [hd1] at hU
              have e1 : fol1 S (stp S n) b2 2 i0 O N i σ = (σ, none) := by rw [e0, hG]; exact if_neg (fun z => z.2.2 hd0)
              rw [lop_n e1]

              refine w_p (pc1 := 5) rfl rfl ?_
              refine w_p (pc1 := 7) (st1 := .int 24 :: _) rfl rfl ?_
              refine w_f (a := 106) (b := 10) (bN_ge_f (a := i) (b := 24) (by omega) (by omega) (by omega)) rfl rfl ?_
              refine w_p (pc1 := 11) rfl rfl ?_
              refine w_m0 (pc1 := 14) rfl rfl (h_gC rfl rfl rfl rfl) rfl ?_
              refine w_p (pc1 := 16) rfl rfl ?_
              refine w_je (pc1 := 19) (vs := [.ref 106, .int (nI (i))]) (rest := []) (st1 := [.ref (241 + kg)]) (m_96_s (d := 4 * n + 13) (sl := 0) (by omega) hkg) rfl rfl rfl (fun _ _ => rfl) rfl (by exact cl_v my_96 rfl rfl rfl (Nat.le_of_ble_eq_true rfl) rfl (MH_obj rfl rfl) rfl (by decide) rfl rfl) (by rfl) (Nat.le_of_ble_eq_true rfl) (Nat.le_of_ble_eq_true rfl) rfl (by rfl) ?_
              refine w_p (pc1 := 21) (al1 := [(6, .ref (241 + kg)), (5, .int (nI (i))), (0, .ref 124), (1, .int (nI (b2))), (2, .int (i0)), (3, .int 2), (4, .int (nI (D)))]) rfl rfl ?_
              refine w_p (pc1 := 23) rfl rfl ?_
              refine w_f (a := 100) (b := 26) rfl rfl rfl ?_
              refine w_p (pc1 := 28) rfl rfl ?_
              refine w_m0 (pc1 := 31) (st1 := .int (nI (b2)) :: _) rfl rfl (x_gf (k := kg) rfl hU rfl) rfl ?_
              refine w_p (pc1 := 32) rfl rfl ?_
              refine w_f (a := 100) (b := 35) (bN_ne_f (a := b2) (b := b2) (by omega) (by omega) (by omega)) rfl rfl ?_
              refine w_p (pc1 := 37) rfl rfl ?_
              refine w_p (pc1 := 38) rfl rfl ?_
              refine w_m0 (pc1 := 41) rfl rfl (h_gC rfl rfl rfl rfl) rfl ?_
              refine w_p (pc1 := 43) rfl rfl ?_
              refine w_m0 (pc1 := 44) (st1 := .ref (31 + D + 100) :: _) rfl rfl (n_als (e := D) rfl rfl (by decide) rfl (by omega) (KS_ol B.1 (by omega))) rfl ?_
              refine w_p (pc1 := 45) rfl rfl ?_
              refine w_p (pc1 := 46) (st1 := .int 2 :: _) rfl rfl ?_
              refine w_f (a := 53) (b := 49) rfl rfl rfl ?_
              refine w_p (pc1 := 50) rfl rfl ?_
              refine w_p (pc1 := 60) rfl rfl ?_
              refine w_je (pc1 := 63) (vs := [.ref (241 + kg), .ref (31 + D + 100), .null]) (rest := []) (st1 := [.int 1]) (htc) rfl rfl rfl (fun _ _ => rfl) rfl (by exact cl_v my_137 rfl rfl rfl (Nat.le_of_ble_eq_true rfl) rfl (x_obj hU) rfl (by decide) rfl rfl) (by rfl) (Nat.le_of_ble_eq_true rfl) (Nat.le_of_ble_eq_true rfl) rfl (by rfl) ?_
              refine w_f (a := 100) (b := 66) rfl rfl rfl ?_
              refine w_p (pc1 := 67) rfl rfl ?_
              refine w_p (pc1 := 68) (st1 := .int 2 :: _) rfl rfl ?_
              refine w_f (a := 79) (b := 71) rfl rfl rfl ?_
              refine w_p (pc1 := 73) rfl rfl ?_
              refine w_m0 (pc1 := 76) (st1 := .int 0 :: _) rfl rfl (x_gf (k := kg) rfl hU rfl) rfl ?_
              refine w_p (pc1 := 84) rfl rfl ?_
              refine w_p (pc1 := 86) (al1 := [(7, .int 0), (6, .ref (241 + kg)), (5, .int (nI (i))), (0, .ref 124), (1, .int (nI (b2))), (2, .int (i0)), (3, .int 2), (4, .int (nI (D)))]) rfl rfl ?_
              refine w_p (pc1 := 87) rfl rfl ?_
              refine w_p (pc1 := 89) rfl rfl ?_
              refine w_p (pc1 := 91) rfl rfl ?_
              refine w_p (pc1 := 93) rfl rfl ?_
              refine w_p (pc1 := 94) rfl rfl ?_
              refine w_p (pc1 := 95) rfl rfl ?_
              refine w_p (pc1 := 97) rfl rfl ?_
              refine w_je (pc1 := 100) (vs := [.ref 124, .int (nI (i)), .ref (241 + kg), .int 0, .int 2, .int (i0), .int (nI (D))]) (rest := []) (st1 := []) (m_138n (d := 4 * n + 12) (sl := 0) (ev := 2) B.2.1.1 U hR.1.2.1) rfl rfl rfl (fun _ _ => rfl) rfl (by exact cl_v my_138 rfl rfl rfl (Nat.le_of_ble_eq_true rfl) rfl (MH_obj rfl rfl) rfl (by decide) rfl rfl) (by rfl) (Nat.le_of_ble_eq_true rfl) (Nat.le_of_ble_eq_true rfl) rfl (by rfl) ?_
              refine w_iinc (pc1 := 103) (u := nI (i)) (z := nI (i + 1)) (al1 := [(5, .int (nI (i + 1))), (7, .int 0), (6, .ref (241 + kg)), (0, .ref 124), (1, .int (nI (b2))), (2, .int (i0)), (3, .int 2), (4, .int (nI (D)))]) rfl rfl rfl nK_1 rfl rfl ?_
              refine w_p (pc1 := 3) rfl rfl ?_
              refine Wd_al (al := [(5, .int (nI (i + 1))), (0, .ref 124), (1, .int (nI (b2))), (2, .int (i0)), (3, .int 2), (4, .int (nI (D)))]) (sba_p [0, 3, 4, 5, 6, 7] rfl rfl) ?_
              exact ih C t σ B hf hst
            · have e1 : fol1 S (stp S n) b2 2 i0 O N i σ = lop (rf1 S (stp S n) i u (dos 2 u) 2 i0 O N) (rids u O (σ.1 (rTb u)).1) σ := by rw [e0, hG]; exact if_pos ⟨hg, hx, hd0⟩
              have hcall := m_138_2 (sl := 0) (i := i) (i0 := i0) (act := dos 2 u) ho hS hD hR hK hg hb6 hd0 hR.2.2.2.2.1 B U0
              refine w_p (pc1 := 5) rfl rfl ?_
              refine w_p (pc1 := 7) (st1 := .int 24 :: _) rfl rfl ?_
              refine w_f (a := 106) (b := 10) (bN_ge_f (a := i) (b := 24) (by omega) (by omega) (by omega)) rfl rfl ?_
              refine w_p (pc1 := 11) rfl rfl ?_
              refine w_m0 (pc1 := 14) rfl rfl (h_gC rfl rfl rfl rfl) rfl ?_
              refine w_p (pc1 := 16) rfl rfl ?_
              refine w_je (pc1 := 19) (vs := [.ref 106, .int (nI (i))]) (rest := []) (st1 := [.ref (241 + kg)]) (m_96_s (d := 4 * n + 13) (sl := 0) (by omega) hkg) rfl rfl rfl (fun _ _ => rfl) rfl (by exact cl_v my_96 rfl rfl rfl (Nat.le_of_ble_eq_true rfl) rfl (MH_obj rfl rfl) rfl (by decide) rfl rfl) (by rfl) (Nat.le_of_ble_eq_true rfl) (Nat.le_of_ble_eq_true rfl) rfl (by rfl) ?_
              refine w_p (pc1 := 21) (al1 := [(6, .ref (241 + kg)), (5, .int (nI (i))), (0, .ref 124), (1, .int (nI (b2))), (2, .int (i0)), (3, .int 2), (4, .int (nI (D)))]) rfl rfl ?_
              refine w_p (pc1 := 23) rfl rfl ?_
              refine w_f (a := 100) (b := 26) rfl rfl rfl ?_
              refine w_p (pc1 := 28) rfl rfl ?_
              refine w_m0 (pc1 := 31) (st1 := .int (nI (b2)) :: _) rfl rfl (x_gf (k := kg) rfl hU rfl) rfl ?_
              refine w_p (pc1 := 32) rfl rfl ?_
              refine w_f (a := 100) (b := 35) (bN_ne_f (a := b2) (b := b2) (by omega) (by omega) (by omega)) rfl rfl ?_
              refine w_p (pc1 := 37) rfl rfl ?_
              refine w_p (pc1 := 38) rfl rfl ?_
              refine w_m0 (pc1 := 41) rfl rfl (h_gC rfl rfl rfl rfl) rfl ?_
              refine w_p (pc1 := 43) rfl rfl ?_
              refine w_m0 (pc1 := 44) (st1 := .ref (31 + D + 100) :: _) rfl rfl (n_als (e := D) rfl rfl (by decide) rfl (by omega) (KS_ol B.1 (by omega))) rfl ?_
              refine w_p (pc1 := 45) rfl rfl ?_
              refine w_p (pc1 := 46) (st1 := .int 2 :: _) rfl rfl ?_
              refine w_f (a := 53) (b := 49) rfl rfl rfl ?_
              refine w_p (pc1 := 50) rfl rfl ?_
              refine w_p (pc1 := 60) rfl rfl ?_
              refine w_je (pc1 := 63) (vs := [.ref (241 + kg), .ref (31 + D + 100), .null]) (rest := []) (st1 := [.int 1]) (htc) rfl rfl rfl (fun _ _ => rfl) rfl (by exact cl_v my_137 rfl rfl rfl (Nat.le_of_ble_eq_true rfl) rfl (x_obj hU) rfl (by decide) rfl rfl) (by rfl) (Nat.le_of_ble_eq_true rfl) (Nat.le_of_ble_eq_true rfl) rfl (by rfl) ?_
              refine w_f (a := 100) (b := 66) rfl rfl rfl ?_
              refine w_p (pc1 := 67) rfl rfl ?_
              refine w_p (pc1 := 68) (st1 := .int 2 :: _) rfl rfl ?_
              refine w_f (a := 79) (b := 71) rfl rfl rfl ?_
              refine w_p (pc1 := 73) rfl rfl ?_
              refine w_m0 (pc1 := 76) (st1 := .int (nI (dos 2 u)) :: _) rfl rfl (x_gf (k := kg) rfl hU rfl) rfl ?_
              refine w_p (pc1 := 84) rfl rfl ?_
              refine w_p (pc1 := 86) (al1 := [(7, .int (nI (dos 2 u))), (6, .ref (241 + kg)), (5, .int (nI (i))), (0, .ref 124), (1, .int (nI (b2))), (2, .int (i0)), (3, .int 2), (4, .int (nI (D)))]) rfl rfl ?_
              refine w_p (pc1 := 87) rfl rfl ?_
              refine w_p (pc1 := 89) rfl rfl ?_
              refine w_p (pc1 := 91) rfl rfl ?_
              refine w_p (pc1 := 93) rfl rfl ?_
              refine w_p (pc1 := 94) rfl rfl ?_
              refine w_p (pc1 := 95) rfl rfl ?_
              refine w_p (pc1 := 97) rfl rfl ?_
              refine w_ji (pc1 := 100) (vs := [.ref 124, .int (nI (i)), .ref (241 + kg), .int (nI (dos 2 u)), .int 2, .int (i0), .int (nI (D))]) (rest := []) (hcall) rfl rfl rfl (fun _ _ => rfl) rfl (by exact cl_v my_138 rfl rfl rfl (Nat.le_of_ble_eq_true rfl) rfl (MH_obj rfl rfl) rfl (by decide) rfl rfl) (by rfl) (Nat.le_of_ble_eq_true rfl) (Nat.le_of_ble_eq_true rfl) rfl (fun v h1 d1 hq => ?_) (fun a h1 d1 hq => ?_)
              · obtain ⟨z1, hv, ⟨C9, t9, ⟨z2, z3, z4⟩, hh⟩, hn⟩ := hq
                subst hv; subst hh; subst hn
                refine w_iinc (pc1 := 103) (u := nI (i)) (z := nI (i + 1)) (al1 := [(5, .int (nI (i + 1))), (7, .int (nI (dos 2 u))), (6, .ref (241 + kg)), (0, .ref 124), (1, .int (nI (b2))), (2, .int (i0)), (3, .int 2), (4, .int (nI (D)))]) rfl rfl rfl nK_1 rfl rfl ?_
                refine w_p (pc1 := 3) rfl rfl ?_
                refine Wd_al (al := [(5, .int (nI (i + 1))), (0, .ref 124), (1, .int (nI (b2))), (2, .int (i0)), (3, .int 2), (4, .int (nI (D)))]) (sba_p [0, 3, 4, 5, 6, 7] rfl rfl) ?_
                rw [lop_n (show fol1 S (stp S n) b2 2 i0 O N i σ = ((lop (rf1 S (stp S n) i u (dos 2 u) 2 i0 O N) (rids u O (σ.1 (rTb u)).1) σ).1, none) by rw [e1, ← z1])]
                exact ih C9 t9 _ (KB_n B (by omega) z3 z4 z2) (frE_t hf z3) (stk_t hst z4)
              · rcases hq with ⟨e9, C9, t9, ⟨z1, z2, z3, z4, z5⟩, ha, hh, hn⟩
                · subst ha; subst hh; subst hn
                  refine Or.inl ⟨ch_new (by decide) rfl, ?_⟩
                  rw [lop_s (show fol1 S (stp S n) b2 2 i0 O N i σ = ((lop (rf1 S (stp S n) i u (dos 2 u) 2 i0 O N) (rids u O (σ.1 (rTb u)).1) σ).1, some e9) by rw [e1, ← z1])]
                  exact ⟨e9, C9, t9, ⟨rfl, z2, z3, frE_t hf z4, stk_t hst z5⟩, rfl, rfl, rfl⟩
        · have e1 : fol1 S (stp S n) b 2 i0 O N i σ = (σ, none) := by rw [e0, hG]; exact if_neg (by rw [hg]; intro z; exact hbb (Option.some.inj z.1))
          rw [lop_n e1]
          refine w_p (pc1 := 5) rfl rfl ?_
          refine w_p (pc1 := 7) (st1 := .int 24 :: _) rfl rfl ?_
          refine w_f (a := 106) (b := 10) (bN_ge_f (a := i) (b := 24) (by omega) (by omega) (by omega)) rfl rfl ?_
          refine w_p (pc1 := 11) rfl rfl ?_
          refine w_m0 (pc1 := 14) rfl rfl (h_gC rfl rfl rfl rfl) rfl ?_
          refine w_p (pc1 := 16) rfl rfl ?_
          refine w_je (pc1 := 19) (vs := [.ref 106, .int (nI (i))]) (rest := []) (st1 := [.ref (241 + kg)]) (m_96_s (d := 4 * n + 13) (sl := 0) (by omega) hkg) rfl rfl rfl (fun _ _ => rfl) rfl (by exact cl_v my_96 rfl rfl rfl (Nat.le_of_ble_eq_true rfl) rfl (MH_obj rfl rfl) rfl (by decide) rfl rfl) (by rfl) (Nat.le_of_ble_eq_true rfl) (Nat.le_of_ble_eq_true rfl) rfl (by rfl) ?_
          refine w_p (pc1 := 21) (al1 := [(6, .ref (241 + kg)), (5, .int (nI (i))), (0, .ref 124), (1, .int (nI (b))), (2, .int (i0)), (3, .int 2), (4, .int (nI (D)))]) rfl rfl ?_
          refine w_p (pc1 := 23) rfl rfl ?_
          refine w_f (a := 100) (b := 26) rfl rfl rfl ?_
          refine w_p (pc1 := 28) rfl rfl ?_
          refine w_m0 (pc1 := 31) (st1 := .int (nI (b2)) :: _) rfl rfl (x_gf (k := kg) rfl hU rfl) rfl ?_
          refine w_p (pc1 := 32) rfl rfl ?_
          refine w_t (a := 100) (b := 35) (bN_ne_t (a := b2) (b := b) (by omega) (by omega) (by omega)) rfl rfl ?_
          refine w_iinc (pc1 := 103) (u := nI (i)) (z := nI (i + 1)) (al1 := [(5, .int (nI (i + 1))), (6, .ref (241 + kg)), (0, .ref 124), (1, .int (nI (b))), (2, .int (i0)), (3, .int 2), (4, .int (nI (D)))]) rfl rfl rfl nK_1 rfl rfl ?_
          refine w_p (pc1 := 3) rfl rfl ?_
          refine Wd_al (al := [(5, .int (nI (i + 1))), (0, .ref 124), (1, .int (nI (b))), (2, .int (i0)), (3, .int 2), (4, .int (nI (D)))]) (sba_p [0, 2, 3, 4, 5, 6] rfl rfl) ?_
          exact ih C t σ B hf hst
set_option maxRecDepth 100000 in
theorem m_136_2 (ho : okSt S) (hS : STP L xs S n (D + 1)) (hD : D < 13) (hb6 : b < 6) (B : KB C t S σ D w2 (sWd S b) N O) : Wd L xs (4 * n + 12 + 2) y_136 (0, [(0, .ref 124), (1, .int (nI (b))), (2, .int (i0)), (3, .int 2), (4, .int (nI (D)))], [], MH C t, sl) (PR C t (sWd S) D (D + 1) sl (fol S (stp S n) b 2 i0 O N σ)) (XR C t D (D + 1) sl (fol S (stp S n) b 2 i0 O N σ)) := by
  refine w_p (pc1 := 1) (st1 := .int 0 :: _) rfl rfl ?_
  refine w_p (pc1 := 3) (al1 := [(5, .int 0), (0, .ref 124), (1, .int (nI (b))), (2, .int (i0)), (3, .int 2), (4, .int (nI (D)))]) rfl rfl ?_
  exact lp_136_2 ho hS hD hb6 24 0 C t σ rfl B frE_r stk_r
set_option maxRecDepth 100000 in
theorem lp_136_1 {C0 : co_T} {t0 : ab_H} (ho : okSt S) (hS : STP L xs S n (D + 1)) (hD : D < 13) (hb6 : b < 6) (hw2 : w2 = sWd S b) : ∀ (m i : Nat) (C : co_T) (t : ab_H) (σ : es_T), i + m = 24 → KB C t S σ D w2 (sWd S b) N O → frE D (D + 1) C0 C → stk t0 t → Wd L xs (4 * n + 12 + 2) y_136 (3, [(5, .int (nI (i))), (0, .ref 124), (1, .int (nI (b))), (2, .int (i0)), (3, .int 1), (4, .int (nI (D)))], [], MH C t, sl) (PR C0 t0 (sWd S) D (D + 1) sl (lop (fol1 S (stp S n) b 1 i0 O N) (rng i m) σ)) (XR C0 t0 D (D + 1) sl (lop (fol1 S (stp S n) b 1 i0 O N) (rng i m) σ))
  | 0, i, C, t, σ, hi, B, hf, hst => by
    obtain rfl : i = 24 := by omega
    refine w_p (pc1 := 5) rfl rfl ?_
    refine w_p (pc1 := 7) (st1 := .int 24 :: _) rfl rfl ?_
    refine w_t (a := 106) (b := 10) (bN_ge_t (a := 24) (b := 24) (by omega) (by omega) (by omega)) rfl rfl ?_
    refine w_r rfl rfl rfl (fun _ _ => rfl) rfl ?_
    exact ⟨rfl, rfl, ⟨C, t, ⟨B.2.1, hf, hst⟩, rfl⟩, rfl⟩
  | m + 1, i, C, t, σ, hi, B, hf, hst => by
    have ih := fun C' t' σ' => lp_136_1 (C0 := C0) (t0 := t0) ho hS hD hb6 hw2 m (i + 1) C' t' σ' (by omega)
    have hop := B.1.2.1 i (by omega)
    have er : rng i (m + 1) = i :: rng (i + 1) m := rfl
    rw [er]
    have e0 : fol1 S (stp S n) b 1 i0 O N i σ = match sRu S i with | none => (σ, none) | some u => (if rTg u = some b ∧ tch 1 (rOs u) O N = true ∧ dos 1 u ≠ 0 then lop (rf1 S (stp S n) i u (dos 1 u) 1 i0 O N) (rids u O (σ.1 (rTb u)).1) σ else (σ, none)) := rfl
    cases hG : sRu S i with
    | none =>
      rw [hG] at hop
      have e1 : fol1 S (stp S n) b 1 i0 O N i σ = (σ, none) := by rw [e0, hG]
      rw [lop_n e1]
      refine w_p (pc1 := 5) rfl rfl ?_
      refine w_p (pc1 := 7) (st1 := .int 24 :: _) rfl rfl ?_
      refine w_f (a := 106) (b := 10) (bN_ge_f (a := i) (b := 24) (by omega) (by omega) (by omega)) rfl rfl ?_
      refine w_p (pc1 := 11) rfl rfl ?_
      refine w_m0 (pc1 := 14) rfl rfl (h_gC rfl rfl rfl rfl) rfl ?_
      refine w_p (pc1 := 16) rfl rfl ?_
      refine w_je (pc1 := 19) (vs := [.ref 106, .int (nI (i))]) (rest := []) (st1 := [.null]) (m_96_n (d := 4 * n + 13) (sl := 0) (by omega) hop) rfl rfl rfl (fun _ _ => rfl) rfl (by exact cl_v my_96 rfl rfl rfl (Nat.le_of_ble_eq_true rfl) rfl (MH_obj rfl rfl) rfl (by decide) rfl rfl) (by rfl) (Nat.le_of_ble_eq_true rfl) (Nat.le_of_ble_eq_true rfl) rfl (by rfl) ?_
      refine w_p (pc1 := 21) (al1 := [(6, .null), (5, .int (nI (i))), (0, .ref 124), (1, .int (nI (b))), (2, .int (i0)), (3, .int 1), (4, .int (nI (D)))]) rfl rfl ?_
      refine w_p (pc1 := 23) rfl rfl ?_
      refine w_t (a := 100) (b := 26) rfl rfl rfl ?_
      refine w_iinc (pc1 := 103) (u := nI (i)) (z := nI (i + 1)) (al1 := [(5, .int (nI (i + 1))), (6, .null), (0, .ref 124), (1, .int (nI (b))), (2, .int (i0)), (3, .int 1), (4, .int (nI (D)))]) rfl rfl rfl nK_1 rfl rfl ?_
      refine w_p (pc1 := 3) rfl rfl ?_
      refine Wd_al (al := [(5, .int (nI (i + 1))), (0, .ref 124), (1, .int (nI (b))), (2, .int (i0)), (3, .int 1), (4, .int (nI (D)))]) (sba_p [0, 2, 3, 4, 5, 6] rfl rfl) ?_
      exact ih C t σ B hf hst
    | some u =>
      rw [hG] at hop
      obtain ⟨kg, hkg, U0⟩ := hop
      obtain ⟨kc, kt, fc, ft, vw, U, hck⟩ := id U0
      have hR := ho.2.1 i u (by omega) hG
      have hU := U.1
      have hw6 := ho.1 b hb6
      cases hg : rTg u with
      | none =>
        rw [hg] at hU
        have e1 : fol1 S (stp S n) b 1 i0 O N i σ = (σ, none) := by rw [e0, hG]; exact if_neg (by rw [hg]; intro z; cases z.1)
        rw [lop_n e1]
        refine w_p (pc1 := 5) rfl rfl ?_
        refine w_p (pc1 := 7) (st1 := .int 24 :: _) rfl rfl ?_
        refine w_f (a := 106) (b := 10) (bN_ge_f (a := i) (b := 24) (by omega) (by omega) (by omega)) rfl rfl ?_
        refine w_p (pc1 := 11) rfl rfl ?_
        refine w_m0 (pc1 := 14) rfl rfl (h_gC rfl rfl rfl rfl) rfl ?_
        refine w_p (pc1 := 16) rfl rfl ?_
        refine w_je (pc1 := 19) (vs := [.ref 106, .int (nI (i))]) (rest := []) (st1 := [.ref (241 + kg)]) (m_96_s (d := 4 * n + 13) (sl := 0) (by omega) hkg) rfl rfl rfl (fun _ _ => rfl) rfl (by exact cl_v my_96 rfl rfl rfl (Nat.le_of_ble_eq_true rfl) rfl (MH_obj rfl rfl) rfl (by decide) rfl rfl) (by rfl) (Nat.le_of_ble_eq_true rfl) (Nat.le_of_ble_eq_true rfl) rfl (by rfl) ?_
        refine w_p (pc1 := 21) (al1 := [(6, .ref (241 + kg)), (5, .int (nI (i))), (0, .ref 124), (1, .int (nI (b))), (2, .int (i0)), (3, .int 1), (4, .int (nI (D)))]) rfl rfl ?_
        refine w_p (pc1 := 23) rfl rfl ?_
        refine w_f (a := 100) (b := 26) rfl rfl rfl ?_
        refine w_p (pc1 := 28) rfl rfl ?_
        refine w_m0 (pc1 := 31) (st1 := .int (-1) :: _) rfl rfl (x_gf (k := kg) rfl hU rfl) rfl ?_
        refine w_p (pc1 := 32) rfl rfl ?_
        refine w_t (a := 100) (b := 35) (cb_ne_t (by exact (nK_m1 (by omega)).symm)) rfl rfl ?_
        refine w_iinc (pc1 := 103) (u := nI (i)) (z := nI (i + 1)) (al1 := [(5, .int (nI (i + 1))), (6, .ref (241 + kg)), (0, .ref 124), (1, .int (nI (b))), (2, .int (i0)), (3, .int 1), (4, .int (nI (D)))]) rfl rfl rfl nK_1 rfl rfl ?_
        refine w_p (pc1 := 3) rfl rfl ?_
        refine Wd_al (al := [(5, .int (nI (i + 1))), (0, .ref 124), (1, .int (nI (b))), (2, .int (i0)), (3, .int 1), (4, .int (nI (D)))]) (sba_p [0, 2, 3, 4, 5, 6] rfl rfl) ?_
        exact ih C t σ B hf hst
      | some b2 =>
        rw [hg] at hU
        have hK : rKd u = 4 := by
          by_cases h : rKd u = 4
          · exact h
          · have := hR.2.2.1 h
            rw [hg] at this
            cases this
        obtain ⟨⟨b9, hb9, hb2, hb3⟩, hll⟩ := hR.2.1 hK
        rw [hg] at hb9
        cases hb9
        by_cases hbb : b2 = b
        · subst hbb
          have htc := m_137u (L := L) (xs := xs) (d := 4 * n + 13) (sl := 0) (kr := 31 + D) (kf := 46 + D) (l := []) (O := O) (N := N) (skO (by omega)) U hR hK hg hw6 B.2.2.2.2 (skF (by omega)) (by rw [← hw2]; exact B.2.2.2.1)
          cases hx : tch 1 (rOs u) O N with
          | false =>
            rw [hx] at htc
            have e1 : fol1 S (stp S n) b2 1 i0 O N i σ = (σ, none) := by rw [e0, hG]; exact if_neg (by rw [hx]; intro z; cases z.2.1)
            rw [lop_n e1]
            refine w_p (pc1 := 5) rfl rfl ?_
            refine w_p (pc1 := 7) (st1 := .int 24 :: _) rfl rfl ?_
            refine w_f (a := 106) (b := 10) (bN_ge_f (a := i) (b := 24) (by omega) (by omega) (by omega)) rfl rfl ?_
            refine w_p (pc1 := 11) rfl rfl ?_
            refine w_m0 (pc1 := 14) rfl rfl (h_gC rfl rfl rfl rfl) rfl ?_
            refine w_p (pc1 := 16) rfl rfl ?_
            refine w_je (pc1 := 19) (vs := [.ref 106, .int (nI (i))]) (rest := []) (st1 := [.ref (241 + kg)]) (m_96_s (d := 4 * n + 13) (sl := 0) (by omega) hkg) rfl rfl rfl (fun _ _ => rfl) rfl (by exact cl_v my_96 rfl rfl rfl (Nat.le_of_ble_eq_true rfl) rfl (MH_obj rfl rfl) rfl (by decide) rfl rfl) (by rfl) (Nat.le_of_ble_eq_true rfl) (Nat.le_of_ble_eq_true rfl) rfl (by rfl) ?_
            refine w_p (pc1 := 21) (al1 := [(6, .ref (241 + kg)), (5, .int (nI (i))), (0, .ref 124), (1, .int (nI (b2))), (2, .int (i0)), (3, .int 1), (4, .int (nI (D)))]) rfl rfl ?_
            refine w_p (pc1 := 23) rfl rfl ?_
            refine w_f (a := 100) (b := 26) rfl rfl rfl ?_
            refine w_p (pc1 := 28) rfl rfl ?_
            refine w_m0 (pc1 := 31) (st1 := .int (nI (b2)) :: _) rfl rfl (x_gf (k := kg) rfl hU rfl) rfl ?_
            refine w_p (pc1 := 32) rfl rfl ?_
            refine w_f (a := 100) (b := 35) (bN_ne_f (a := b2) (b := b2) (by omega) (by omega) (by omega)) rfl rfl ?_
            refine w_p (pc1 := 37) rfl rfl ?_
            refine w_p (pc1 := 38) rfl rfl ?_
            refine w_m0 (pc1 := 41) rfl rfl (h_gC rfl rfl rfl rfl) rfl ?_
            refine w_p (pc1 := 43) rfl rfl ?_
            refine w_m0 (pc1 := 44) (st1 := .ref (31 + D + 100) :: _) rfl rfl (n_als (e := D) rfl rfl (by decide) rfl (by omega) (KS_ol B.1 (by omega))) rfl ?_
            refine w_p (pc1 := 45) rfl rfl ?_
            refine w_p (pc1 := 46) (st1 := .int 2 :: _) rfl rfl ?_
            refine w_t (a := 53) (b := 49) rfl rfl rfl ?_
            refine w_p (pc1 := 54) rfl rfl ?_
            refine w_m0 (pc1 := 57) rfl rfl (h_gC rfl rfl rfl rfl) rfl ?_
            refine w_p (pc1 := 59) rfl rfl ?_
            refine w_m0 (pc1 := 60) (st1 := .ref (46 + D + 100) :: _) rfl rfl (n_als (e := D) rfl rfl (by decide) rfl (by omega) (KS_fr B.1 (by omega))) rfl ?_
            refine w_je (pc1 := 63) (vs := [.ref (241 + kg), .ref (31 + D + 100), .ref (46 + D + 100)]) (rest := []) (st1 := [.int 0]) (htc) rfl rfl rfl (fun _ _ => rfl) rfl (by exact cl_v my_137 rfl rfl rfl (Nat.le_of_ble_eq_true rfl) rfl (x_obj hU) rfl (by decide) rfl rfl) (by rfl) (Nat.le_of_ble_eq_true rfl) (Nat.le_of_ble_eq_true rfl) rfl (by rfl) ?_
            refine w_t (a := 100) (b := 66) rfl rfl rfl ?_
            refine w_iinc (pc1 := 103) (u := nI (i)) (z := nI (i + 1)) (al1 := [(5, .int (nI (i + 1))), (6, .ref (241 + kg)), (0, .ref 124), (1, .int (nI (b2))), (2, .int (i0)), (3, .int 1), (4, .int (nI (D)))]) rfl rfl rfl nK_1 rfl rfl ?_
            refine w_p (pc1 := 3) rfl rfl ?_
            refine Wd_al (al := [(5, .int (nI (i + 1))), (0, .ref 124), (1, .int (nI (b2))), (2, .int (i0)), (3, .int 1), (4, .int (nI (D)))]) (sba_p [0, 2, 3, 4, 5, 6] rfl rfl) ?_
            exact ih C t σ B hf hst
          | true =>
            rw [hx] at htc
            by_cases hd0 : dos 1 u = 0
            · have hd1 : rUp u = 0 := hd0
              rw [hd1] at hU
              have e1 : fol1 S (stp S n) b2 1 i0 O N i σ = (σ, none) := by rw [e0, hG]; exact if_neg (fun z => z.2.2 hd0)
              rw [lop_n e1]

              refine w_p (pc1 := 5) rfl rfl ?_
              refine w_p (pc1 := 7) (st1 := .int 24 :: _) rfl rfl ?_
              refine w_f (a := 106) (b := 10) (bN_ge_f (a := i) (b := 24) (by omega) (by omega) (by omega)) rfl rfl ?_
              refine w_p (pc1 := 11) rfl rfl ?_
              refine w_m0 (pc1 := 14) rfl rfl (h_gC rfl rfl rfl rfl) rfl ?_
              refine w_p (pc1 := 16) rfl rfl ?_
              refine w_je (pc1 := 19) (vs := [.ref 106, .int (nI (i))]) (rest := []) (st1 := [.ref (241 + kg)]) (m_96_s (d := 4 * n + 13) (sl := 0) (by omega) hkg) rfl rfl rfl (fun _ _ => rfl) rfl (by exact cl_v my_96 rfl rfl rfl (Nat.le_of_ble_eq_true rfl) rfl (MH_obj rfl rfl) rfl (by decide) rfl rfl) (by rfl) (Nat.le_of_ble_eq_true rfl) (Nat.le_of_ble_eq_true rfl) rfl (by rfl) ?_
              refine w_p (pc1 := 21) (al1 := [(6, .ref (241 + kg)), (5, .int (nI (i))), (0, .ref 124), (1, .int (nI (b2))), (2, .int (i0)), (3, .int 1), (4, .int (nI (D)))]) rfl rfl ?_
              refine w_p (pc1 := 23) rfl rfl ?_
              refine w_f (a := 100) (b := 26) rfl rfl rfl ?_
              refine w_p (pc1 := 28) rfl rfl ?_
              refine w_m0 (pc1 := 31) (st1 := .int (nI (b2)) :: _) rfl rfl (x_gf (k := kg) rfl hU rfl) rfl ?_
              refine w_p (pc1 := 32) rfl rfl ?_
              refine w_f (a := 100) (b := 35) (bN_ne_f (a := b2) (b := b2) (by omega) (by omega) (by omega)) rfl rfl ?_
              refine w_p (pc1 := 37) rfl rfl ?_
              refine w_p (pc1 := 38) rfl rfl ?_
              refine w_m0 (pc1 := 41) rfl rfl (h_gC rfl rfl rfl rfl) rfl ?_
              refine w_p (pc1 := 43) rfl rfl ?_
              refine w_m0 (pc1 := 44) (st1 := .ref (31 + D + 100) :: _) rfl rfl (n_als (e := D) rfl rfl (by decide) rfl (by omega) (KS_ol B.1 (by omega))) rfl ?_
              refine w_p (pc1 := 45) rfl rfl ?_
              refine w_p (pc1 := 46) (st1 := .int 2 :: _) rfl rfl ?_
              refine w_t (a := 53) (b := 49) rfl rfl rfl ?_
              refine w_p (pc1 := 54) rfl rfl ?_
              refine w_m0 (pc1 := 57) rfl rfl (h_gC rfl rfl rfl rfl) rfl ?_
              refine w_p (pc1 := 59) rfl rfl ?_
              refine w_m0 (pc1 := 60) (st1 := .ref (46 + D + 100) :: _) rfl rfl (n_als (e := D) rfl rfl (by decide) rfl (by omega) (KS_fr B.1 (by omega))) rfl ?_
              refine w_je (pc1 := 63) (vs := [.ref (241 + kg), .ref (31 + D + 100), .ref (46 + D + 100)]) (rest := []) (st1 := [.int 1]) (htc) rfl rfl rfl (fun _ _ => rfl) rfl (by exact cl_v my_137 rfl rfl rfl (Nat.le_of_ble_eq_true rfl) rfl (x_obj hU) rfl (by decide) rfl rfl) (by rfl) (Nat.le_of_ble_eq_true rfl) (Nat.le_of_ble_eq_true rfl) rfl (by rfl) ?_
              refine w_f (a := 100) (b := 66) rfl rfl rfl ?_
              refine w_p (pc1 := 67) rfl rfl ?_
              refine w_p (pc1 := 68) (st1 := .int 2 :: _) rfl rfl ?_
              refine w_t (a := 79) (b := 71) rfl rfl rfl ?_
              refine w_p (pc1 := 81) rfl rfl ?_
              refine w_m0 (pc1 := 84) (st1 := .int 0 :: _) rfl rfl (x_gf (k := kg) rfl hU rfl) rfl ?_
              refine w_p (pc1 := 86) (al1 := [(7, .int 0), (6, .ref (241 + kg)), (5, .int (nI (i))), (0, .ref 124), (1, .int (nI (b2))), (2, .int (i0)), (3, .int 1), (4, .int (nI (D)))]) rfl rfl ?_
              refine w_p (pc1 := 87) rfl rfl ?_
              refine w_p (pc1 := 89) rfl rfl ?_
              refine w_p (pc1 := 91) rfl rfl ?_
              refine w_p (pc1 := 93) rfl rfl ?_
              refine w_p (pc1 := 94) rfl rfl ?_
              refine w_p (pc1 := 95) rfl rfl ?_
              refine w_p (pc1 := 97) rfl rfl ?_
              refine w_je (pc1 := 100) (vs := [.ref 124, .int (nI (i)), .ref (241 + kg), .int 0, .int 1, .int (i0), .int (nI (D))]) (rest := []) (st1 := []) (m_138n (d := 4 * n + 12) (sl := 0) (ev := 1) B.2.1.1 U hR.1.2.1) rfl rfl rfl (fun _ _ => rfl) rfl (by exact cl_v my_138 rfl rfl rfl (Nat.le_of_ble_eq_true rfl) rfl (MH_obj rfl rfl) rfl (by decide) rfl rfl) (by rfl) (Nat.le_of_ble_eq_true rfl) (Nat.le_of_ble_eq_true rfl) rfl (by rfl) ?_
              refine w_iinc (pc1 := 103) (u := nI (i)) (z := nI (i + 1)) (al1 := [(5, .int (nI (i + 1))), (7, .int 0), (6, .ref (241 + kg)), (0, .ref 124), (1, .int (nI (b2))), (2, .int (i0)), (3, .int 1), (4, .int (nI (D)))]) rfl rfl rfl nK_1 rfl rfl ?_
              refine w_p (pc1 := 3) rfl rfl ?_
              refine Wd_al (al := [(5, .int (nI (i + 1))), (0, .ref 124), (1, .int (nI (b2))), (2, .int (i0)), (3, .int 1), (4, .int (nI (D)))]) (sba_p [0, 3, 4, 5, 6, 7] rfl rfl) ?_
              exact ih C t σ B hf hst
            · have e1 : fol1 S (stp S n) b2 1 i0 O N i σ = lop (rf1 S (stp S n) i u (dos 1 u) 1 i0 O N) (rids u O (σ.1 (rTb u)).1) σ := by rw [e0, hG]; exact if_pos ⟨hg, hx, hd0⟩
              have hcall := m_138_1 (sl := 0) (i := i) (i0 := i0) (act := dos 1 u) ho hS hD hR hK hg hb6 hd0 hR.2.2.2.2.2 (by omega) B U0
              refine w_p (pc1 := 5) rfl rfl ?_
              refine w_p (pc1 := 7) (st1 := .int 24 :: _) rfl rfl ?_
              refine w_f (a := 106) (b := 10) (bN_ge_f (a := i) (b := 24) (by omega) (by omega) (by omega)) rfl rfl ?_
              refine w_p (pc1 := 11) rfl rfl ?_
              refine w_m0 (pc1 := 14) rfl rfl (h_gC rfl rfl rfl rfl) rfl ?_
              refine w_p (pc1 := 16) rfl rfl ?_
              refine w_je (pc1 := 19) (vs := [.ref 106, .int (nI (i))]) (rest := []) (st1 := [.ref (241 + kg)]) (m_96_s (d := 4 * n + 13) (sl := 0) (by omega) hkg) rfl rfl rfl (fun _ _ => rfl) rfl (by exact cl_v my_96 rfl rfl rfl (Nat.le_of_ble_eq_true rfl) rfl (MH_obj rfl rfl) rfl (by decide) rfl rfl) (by rfl) (Nat.le_of_ble_eq_true rfl) (Nat.le_of_ble_eq_true rfl) rfl (by rfl) ?_
              refine w_p (pc1 := 21) (al1 := [(6, .ref (241 + kg)), (5, .int (nI (i))), (0, .ref 124), (1, .int (nI (b2))), (2, .int (i0)), (3, .int 1), (4, .int (nI (D)))]) rfl rfl ?_
              refine w_p (pc1 := 23) rfl rfl ?_
              refine w_f (a := 100) (b := 26) rfl rfl rfl ?_
              refine w_p (pc1 := 28) rfl rfl ?_
              refine w_m0 (pc1 := 31) (st1 := .int (nI (b2)) :: _) rfl rfl (x_gf (k := kg) rfl hU rfl) rfl ?_
              refine w_p (pc1 := 32) rfl rfl ?_
              refine w_f (a := 100) (b := 35) (bN_ne_f (a := b2) (b := b2) (by omega) (by omega) (by omega)) rfl rfl ?_
              refine w_p (pc1 := 37) rfl rfl ?_
              refine w_p (pc1 := 38) rfl rfl ?_
              refine w_m0 (pc1 := 41) rfl rfl (h_gC rfl rfl rfl rfl) rfl ?_
              refine w_p (pc1 := 43) rfl rfl ?_
              refine w_m0 (pc1 := 44) (st1 := .ref (31 + D + 100) :: _) rfl rfl (n_als (e := D) rfl rfl (by decide) rfl (by omega) (KS_ol B.1 (by omega))) rfl ?_
              refine w_p (pc1 := 45) rfl rfl ?_
              refine w_p (pc1 := 46) (st1 := .int 2 :: _) rfl rfl ?_
              refine w_t (a := 53) (b := 49) rfl rfl rfl ?_
              refine w_p (pc1 := 54) rfl rfl ?_
              refine w_m0 (pc1 := 57) rfl rfl (h_gC rfl rfl rfl rfl) rfl ?_
              refine w_p (pc1 := 59) rfl rfl ?_
              refine w_m0 (pc1 := 60) (st1 := .ref (46 + D + 100) :: _) rfl rfl (n_als (e := D) rfl rfl (by decide) rfl (by omega) (KS_fr B.1 (by omega))) rfl ?_
              refine w_je (pc1 := 63) (vs := [.ref (241 + kg), .ref (31 + D + 100), .ref (46 + D + 100)]) (rest := []) (st1 := [.int 1]) (htc) rfl rfl rfl (fun _ _ => rfl) rfl (by exact cl_v my_137 rfl rfl rfl (Nat.le_of_ble_eq_true rfl) rfl (x_obj hU) rfl (by decide) rfl rfl) (by rfl) (Nat.le_of_ble_eq_true rfl) (Nat.le_of_ble_eq_true rfl) rfl (by rfl) ?_
              refine w_f (a := 100) (b := 66) rfl rfl rfl ?_
              refine w_p (pc1 := 67) rfl rfl ?_
              refine w_p (pc1 := 68) (st1 := .int 2 :: _) rfl rfl ?_
              refine w_t (a := 79) (b := 71) rfl rfl rfl ?_
              refine w_p (pc1 := 81) rfl rfl ?_
              refine w_m0 (pc1 := 84) (st1 := .int (nI (dos 1 u)) :: _) rfl rfl (x_gf (k := kg) rfl hU rfl) rfl ?_
              refine w_p (pc1 := 86) (al1 := [(7, .int (nI (dos 1 u))), (6, .ref (241 + kg)), (5, .int (nI (i))), (0, .ref 124), (1, .int (nI (b2))), (2, .int (i0)), (3, .int 1), (4, .int (nI (D)))]) rfl rfl ?_
              refine w_p (pc1 := 87) rfl rfl ?_
              refine w_p (pc1 := 89) rfl rfl ?_
              refine w_p (pc1 := 91) rfl rfl ?_
              refine w_p (pc1 := 93) rfl rfl ?_
              refine w_p (pc1 := 94) rfl rfl ?_
              refine w_p (pc1 := 95) rfl rfl ?_
              refine w_p (pc1 := 97) rfl rfl ?_
              refine w_ji (pc1 := 100) (vs := [.ref 124, .int (nI (i)), .ref (241 + kg), .int (nI (dos 1 u)), .int 1, .int (i0), .int (nI (D))]) (rest := []) (hcall) rfl rfl rfl (fun _ _ => rfl) rfl (by exact cl_v my_138 rfl rfl rfl (Nat.le_of_ble_eq_true rfl) rfl (MH_obj rfl rfl) rfl (by decide) rfl rfl) (by rfl) (Nat.le_of_ble_eq_true rfl) (Nat.le_of_ble_eq_true rfl) rfl (fun v h1 d1 hq => ?_) (fun a h1 d1 hq => ?_)
              · obtain ⟨z1, hv, ⟨C9, t9, ⟨z2, z3, z4⟩, hh⟩, hn⟩ := hq
                subst hv; subst hh; subst hn
                refine w_iinc (pc1 := 103) (u := nI (i)) (z := nI (i + 1)) (al1 := [(5, .int (nI (i + 1))), (7, .int (nI (dos 1 u))), (6, .ref (241 + kg)), (0, .ref 124), (1, .int (nI (b2))), (2, .int (i0)), (3, .int 1), (4, .int (nI (D)))]) rfl rfl rfl nK_1 rfl rfl ?_
                refine w_p (pc1 := 3) rfl rfl ?_
                refine Wd_al (al := [(5, .int (nI (i + 1))), (0, .ref 124), (1, .int (nI (b2))), (2, .int (i0)), (3, .int 1), (4, .int (nI (D)))]) (sba_p [0, 3, 4, 5, 6, 7] rfl rfl) ?_
                rw [lop_n (show fol1 S (stp S n) b2 1 i0 O N i σ = ((lop (rf1 S (stp S n) i u (dos 1 u) 1 i0 O N) (rids u O (σ.1 (rTb u)).1) σ).1, none) by rw [e1, ← z1])]
                exact ih C9 t9 _ (KB_n B (by omega) z3 z4 z2) (frE_t hf z3) (stk_t hst z4)
              · rcases hq with ⟨e9, C9, t9, ⟨z1, z2, z3, z4, z5⟩, ha, hh, hn⟩
                · subst ha; subst hh; subst hn
                  refine Or.inl ⟨ch_new (by decide) rfl, ?_⟩
                  rw [lop_s (show fol1 S (stp S n) b2 1 i0 O N i σ = ((lop (rf1 S (stp S n) i u (dos 1 u) 1 i0 O N) (rids u O (σ.1 (rTb u)).1) σ).1, some e9) by rw [e1, ← z1])]
                  exact ⟨e9, C9, t9, ⟨rfl, z2, z3, frE_t hf z4, stk_t hst z5⟩, rfl, rfl, rfl⟩
        · have e1 : fol1 S (stp S n) b 1 i0 O N i σ = (σ, none) := by rw [e0, hG]; exact if_neg (by rw [hg]; intro z; exact hbb (Option.some.inj z.1))
          rw [lop_n e1]
          refine w_p (pc1 := 5) rfl rfl ?_
          refine w_p (pc1 := 7) (st1 := .int 24 :: _) rfl rfl ?_
          refine w_f (a := 106) (b := 10) (bN_ge_f (a := i) (b := 24) (by omega) (by omega) (by omega)) rfl rfl ?_
          refine w_p (pc1 := 11) rfl rfl ?_
          refine w_m0 (pc1 := 14) rfl rfl (h_gC rfl rfl rfl rfl) rfl ?_
          refine w_p (pc1 := 16) rfl rfl ?_
          refine w_je (pc1 := 19) (vs := [.ref 106, .int (nI (i))]) (rest := []) (st1 := [.ref (241 + kg)]) (m_96_s (d := 4 * n + 13) (sl := 0) (by omega) hkg) rfl rfl rfl (fun _ _ => rfl) rfl (by exact cl_v my_96 rfl rfl rfl (Nat.le_of_ble_eq_true rfl) rfl (MH_obj rfl rfl) rfl (by decide) rfl rfl) (by rfl) (Nat.le_of_ble_eq_true rfl) (Nat.le_of_ble_eq_true rfl) rfl (by rfl) ?_
          refine w_p (pc1 := 21) (al1 := [(6, .ref (241 + kg)), (5, .int (nI (i))), (0, .ref 124), (1, .int (nI (b))), (2, .int (i0)), (3, .int 1), (4, .int (nI (D)))]) rfl rfl ?_
          refine w_p (pc1 := 23) rfl rfl ?_
          refine w_f (a := 100) (b := 26) rfl rfl rfl ?_
          refine w_p (pc1 := 28) rfl rfl ?_
          refine w_m0 (pc1 := 31) (st1 := .int (nI (b2)) :: _) rfl rfl (x_gf (k := kg) rfl hU rfl) rfl ?_
          refine w_p (pc1 := 32) rfl rfl ?_
          refine w_t (a := 100) (b := 35) (bN_ne_t (a := b2) (b := b) (by omega) (by omega) (by omega)) rfl rfl ?_
          refine w_iinc (pc1 := 103) (u := nI (i)) (z := nI (i + 1)) (al1 := [(5, .int (nI (i + 1))), (6, .ref (241 + kg)), (0, .ref 124), (1, .int (nI (b))), (2, .int (i0)), (3, .int 1), (4, .int (nI (D)))]) rfl rfl rfl nK_1 rfl rfl ?_
          refine w_p (pc1 := 3) rfl rfl ?_
          refine Wd_al (al := [(5, .int (nI (i + 1))), (0, .ref 124), (1, .int (nI (b))), (2, .int (i0)), (3, .int 1), (4, .int (nI (D)))]) (sba_p [0, 2, 3, 4, 5, 6] rfl rfl) ?_
          exact ih C t σ B hf hst
set_option maxRecDepth 100000 in
theorem m_136_1 (ho : okSt S) (hS : STP L xs S n (D + 1)) (hD : D < 13) (hb6 : b < 6) (hw2 : w2 = sWd S b) (B : KB C t S σ D w2 (sWd S b) N O) : Wd L xs (4 * n + 12 + 2) y_136 (0, [(0, .ref 124), (1, .int (nI (b))), (2, .int (i0)), (3, .int 1), (4, .int (nI (D)))], [], MH C t, sl) (PR C t (sWd S) D (D + 1) sl (fol S (stp S n) b 1 i0 O N σ)) (XR C t D (D + 1) sl (fol S (stp S n) b 1 i0 O N σ)) := by
  refine w_p (pc1 := 1) (st1 := .int 0 :: _) rfl rfl ?_
  refine w_p (pc1 := 3) (al1 := [(5, .int 0), (0, .ref 124), (1, .int (nI (b))), (2, .int (i0)), (3, .int 1), (4, .int (nI (D)))]) rfl rfl ?_
  exact lp_136_1 ho hS hD hb6 hw2 24 0 C t σ rfl B frE_r stk_r
set_option maxRecDepth 100000 in
theorem stp_s {kd tb : Nat} {i : Int32} (h : 300 ≤ σ.2.1) : stp S n kd tb i O N σ = (σ, some (5, 0, 0)) := by
  cases n with
  | zero => rfl
  | succ n => exact if_pos h
set_option maxRecDepth 100000 in
theorem spK_5 : spK (sI C 24 6 5) (5, 0, 0) := ⟨rfl, fun h => absurd h (by decide), fun h => absurd h (by decide)⟩
set_option maxRecDepth 100000 in
theorem spK_6 : spK (sI C 24 6 6) (6, 0, 0) := ⟨rfl, fun h => absurd h (by decide), fun h => absurd h (by decide)⟩
set_option maxRecDepth 100000 in
theorem KE_b {u v : Nat} (h : KE C (sWd S) σ) (hu : u ≤ 300) (hv : v ≤ 12) : KE (sI (sI C 24 7 (nI u)) 24 8 (nI v)) (sWd S) (σ.1, u, v) := by
  obtain ⟨W, h1, h2, h3, h4, h5⟩ := h
  refine ⟨fun b hb => ?_, fun b hb => ?_, rfl, hu, rfl, hv⟩
  · obtain ⟨g1, g2, g3, g4⟩ := W b hb
    refine ⟨g1, ?_, g3, fun k r hr => ⟨?_, (g4 k r hr).2⟩⟩
    · rw [sI_1, if_neg (by omega), sI_1, if_neg (by omega)]
      exact g2
    · rw [sI_1, if_neg (by omega), sI_1, if_neg (by omega)]
      exact (g4 k r hr).1
  · rw [sI_1, if_neg (by omega), sI_1, if_neg (by omega)]
    exact h1 b hb
set_option maxRecDepth 100000 in
theorem frE_ap {kr m : Nat} {F : Nat} : frE D F C (apC C kr b m) := by
  unfold apC wrC
  refine ⟨fun k j h _ _ => ?_, fun k j h _ _ => ?_, rfl⟩
  · rw [sB_1, sI_1, if_neg (by omega), sI_1, if_neg (by omega), sI_1, if_neg (by omega)]
  · rw [sB_2, if_neg h]
    rfl
set_option maxRecDepth 100000 in
theorem frE_wr {kr p F : Nat} : frE D F C (wrC C kr p) := ⟨fun _ _ _ _ _ => rfl, fun k j h _ _ => wr_o h, rfl⟩
set_option maxRecDepth 100000 in
theorem frE_rm {m F : Nat} : frE D F C (rmC C b k m) := by
  unfold rmC
  refine ⟨fun q j h _ _ => ?_, fun q j h _ _ => ?_, rfl⟩
  · rw [sI_1, if_neg (by omega), sB_1, sA_1, if_neg (by omega)]
  · rw [sI_2, sB_2, if_neg h]
    rfl
set_option maxRecDepth 100000 in
theorem KE_wr {kr : Nat} {r : ro_T} {f : rw_F} (hk : kr ≠ 14) (h : KE C (sWd S) σ) (hb : b < 6) (hr : (σ.1 b).1[k]? = some r) (hf : bfK C kr (sWd S b) f) : KE (wrC C kr ((b * 40 + k) * 6)) (sWd S) (rsW σ.1 b k (r.1, f), σ.2) := by
  refine ⟨wr_W hk h.1 hb hr hf, fun j hj => ?_, h.2.2⟩
  have h1 := h.2.1 j hj
  show C.1 17 j = _
  rw [h1]
  unfold rsW rsU
  simp only
  split
  · rename_i e
    rw [e]
  · rfl
set_option maxRecDepth 100000 in
theorem KE_rm (h : KE C (sWd S) σ) (hb : b < 6) (hk : k < (σ.1 b).1.length) : KE (rmC C b k (σ.1 b).1.length) (sWd S) (rsD σ.1 b k, σ.2) := by
  have f : frE 0 0 C (rmC C b k (σ.1 b).1.length) := frE_rm
  have e17 : ∀ j, (rmC C b k (σ.1 b).1.length).1 17 j = C.1 17 j := by
    intro j
    unfold rmC
    rw [sI_1, if_neg (by omega), sB_1, sA_1, if_neg (by decide)]
  have e24 : ∀ j, (rmC C b k (σ.1 b).1.length).1 24 j = C.1 24 j := by
    intro j
    unfold rmC
    rw [sI_1, if_neg (by omega), sB_1, sA_1, if_neg (by decide)]
  obtain ⟨W, h1, h2, h3, h4, h5⟩ := h
  refine ⟨rm_W W hb hk, fun j hj => ?_, (e24 7).trans h2, h3, (e24 8).trans h4, h5⟩
  rw [e17, h1 j hj]
  unfold rsD rsU
  simp only
  split
  · rename_i e
    rw [e]
  · rfl
set_option maxRecDepth 100000 in
theorem KE_ap {kr : Nat} {f : rw_F} (hk : kr ≠ 14) (h : KE C (sWd S) σ) (hb : b < 6) (hl : (σ.1 b).1.length < 40) (hf : bfK C kr (sWd S b) f) : KE (apC C kr b (σ.1 b).1.length) (sWd S) (rsA σ.1 b f, σ.2) := by
  obtain ⟨W, h1, h2, h3, h4, h5⟩ := h
  have e24 : ∀ j, (apC C kr b (σ.1 b).1.length).1 24 j = C.1 24 j := by
    intro j
    unfold apC wrC
    rw [sB_1, sI_1, if_neg (by omega), sI_1, if_neg (by omega), sI_1, if_neg (by omega)]
  refine ⟨ap_W hk W (h1 b hb) hb rfl hl hf, fun j hj => ?_, (e24 7).trans h2, h3, (e24 8).trans h4, h5⟩
  have e17 : (apC C kr b (σ.1 b).1.length).1 17 j = if j = b then C.1 17 b + 1 else C.1 17 j := by
    unfold apC wrC
    rw [sB_1, sI_1, if_neg (by omega), sI_1]
    by_cases e : j = b
    · rw [if_pos ⟨rfl, e⟩, if_pos e]
    · rw [if_neg (by omega), if_neg e, sI_1, if_neg (by omega)]
  rw [e17, h1 b hb, h1 j hj]
  unfold rsA rsU
  simp only
  split
  · rfl
  · rfl
set_option maxRecDepth 100000 in
theorem frE_b {F u v : Nat} : frE D F C (sI (sI C 24 7 (nI u)) 24 8 (nI v)) := ⟨fun k j _ h _ => by rw [sI_1, if_neg (by omega), sI_1, if_neg (by omega)], fun _ _ _ _ _ => rfl, rfl⟩
set_option maxRecDepth 100000 in
theorem st_x0 {tb : Nat} {i : Int32} {r : rz_T} (hE : KE C (sWd S) σ) (h : 300 ≤ σ.2.1 ∨ 12 < E) (hE3 : E ≤ 13) (hr : r = (σ, some (5, 0, 0))) : Wd L xs (d + 8) y_120 (0, [(0, .ref 124), (1, .int (nI (tb))), (2, .int (nI (E)))], [], MH C t, 0) (PR C t (sWd S) E E 0 r) (XR C t E E 0 r) := by
  subst hr
  refine w_p (pc1 := 1) rfl rfl ?_
  refine w_p (pc1 := 2) rfl rfl ?_
  refine w_ji (pc1 := 5) (vs := [.ref 124, .int (nI (E))]) (rest := []) (m_121s (d := d) (sl := 0) (v := 0) hE.2.2.1 hE.2.2.2.1 h hE3) rfl rfl rfl (fun _ _ => rfl) rfl (by exact cl_v my_121 rfl rfl rfl (Nat.le_of_ble_eq_true rfl) rfl (MH_obj rfl rfl) rfl (by decide) rfl rfl) (by rfl) (Nat.le_of_ble_eq_true rfl) (Nat.le_of_ble_eq_true rfl) rfl (fun v h1 d1 hq => ?_) (fun a h1 d1 hq => ?_)
  · exact hq.elim
  · rcases hq with ⟨ha, hh, hn⟩
    · subst ha; subst hh; subst hn
      refine Or.inl ⟨ch_new (by decide) rfl, ?_⟩
      exact ⟨(5, 0, 0), sI C 24 6 5, t, ⟨rfl, hE.2.2, spK_5, frE_s, stk_r⟩, rfl, rfl, rfl⟩
set_option maxRecDepth 100000 in
theorem st_x1 {tb : Nat} {i : Int32} {r : rz_T} (hE : KE C (sWd S) σ) (h : 300 ≤ σ.2.1 ∨ 12 < E) (hE3 : E ≤ 13) (hr : r = (σ, some (5, 0, 0))) : Wd L xs (d + 8) y_143 (0, [(0, .ref 124), (1, .int (nI (tb))), (2, .int (i)), (3, .int (nI (E)))], [], MH C t, 0) (PR C t (sWd S) E E 0 r) (XR C t E E 0 r) := by
  subst hr
  refine w_p (pc1 := 1) rfl rfl ?_
  refine w_p (pc1 := 2) rfl rfl ?_
  refine w_ji (pc1 := 5) (vs := [.ref 124, .int (nI (E))]) (rest := []) (m_121s (d := d) (sl := 0) (v := 0) hE.2.2.1 hE.2.2.2.1 h hE3) rfl rfl rfl (fun _ _ => rfl) rfl (by exact cl_v my_121 rfl rfl rfl (Nat.le_of_ble_eq_true rfl) rfl (MH_obj rfl rfl) rfl (by decide) rfl rfl) (by rfl) (Nat.le_of_ble_eq_true rfl) (Nat.le_of_ble_eq_true rfl) rfl (fun v h1 d1 hq => ?_) (fun a h1 d1 hq => ?_)
  · exact hq.elim
  · rcases hq with ⟨ha, hh, hn⟩
    · subst ha; subst hh; subst hn
      refine Or.inl ⟨ch_new (by decide) rfl, ?_⟩
      exact ⟨(5, 0, 0), sI C 24 6 5, t, ⟨rfl, hE.2.2, spK_5, frE_s, stk_r⟩, rfl, rfl, rfl⟩
set_option maxRecDepth 100000 in
theorem st_x2 {tb : Nat} {i : Int32} {r : rz_T} (hE : KE C (sWd S) σ) (h : 300 ≤ σ.2.1 ∨ 12 < E) (hE3 : E ≤ 13) (hr : r = (σ, some (5, 0, 0))) : Wd L xs (d + 8) y_134 (0, [(0, .ref 124), (1, .int (nI (tb))), (2, .int (i)), (3, .int (nI (E)))], [], MH C t, 0) (PR C t (sWd S) E E 0 r) (XR C t E E 0 r) := by
  subst hr
  refine w_p (pc1 := 1) rfl rfl ?_
  refine w_p (pc1 := 2) rfl rfl ?_
  refine w_ji (pc1 := 5) (vs := [.ref 124, .int (nI (E))]) (rest := []) (m_121s (d := d) (sl := 0) (v := 0) hE.2.2.1 hE.2.2.2.1 h hE3) rfl rfl rfl (fun _ _ => rfl) rfl (by exact cl_v my_121 rfl rfl rfl (Nat.le_of_ble_eq_true rfl) rfl (MH_obj rfl rfl) rfl (by decide) rfl rfl) (by rfl) (Nat.le_of_ble_eq_true rfl) (Nat.le_of_ble_eq_true rfl) rfl (fun v h1 d1 hq => ?_) (fun a h1 d1 hq => ?_)
  · exact hq.elim
  · rcases hq with ⟨ha, hh, hn⟩
    · subst ha; subst hh; subst hn
      refine Or.inl ⟨ch_new (by decide) rfl, ?_⟩
      exact ⟨(5, 0, 0), sI C 24 6 5, t, ⟨rfl, hE.2.2, spK_5, frE_s, stk_r⟩, rfl, rfl, rfl⟩
set_option maxRecDepth 100000 in
theorem STP_0 (hE : E = 13) : STP L xs S 0 E := by
  subst hE
  refine ⟨fun tb O N σ C t htb K hE hB => ?_, fun tb i O N σ C t htb K hE hO hB => ?_, fun tb i O N σ C t htb K hE hO => ?_⟩
  · exact Wd_up (by omega) (st_x0 (d := 0) (i := 0) hE (Or.inr (by omega)) (by omega) rfl)
  · exact Wd_up (by omega) (st_x1 (d := 0) hE (Or.inr (by omega)) (by omega) rfl)
  · exact Wd_up (by omega) (st_x2 (d := 0) hE (Or.inr (by omega)) (by omega) rfl)
set_option maxRecDepth 100000 in
theorem STP_s0 (ho : okSt S) (hS : STP L xs S n (E + 1)) (hn : n + 1 + E = 13) (hE1 : 1 ≤ E) : STP0 L xs S (n + 1) E := by
  intro tb O N σ C t htb K hE hB
  by_cases h3 : 300 ≤ σ.2.1
  · exact Wd_up (by omega) (st_x0 (d := 4 * n + 8) (i := 0) hE (Or.inl h3) (by omega) (stp_s h3))
  · have hX := hE.2.2
    have hw6 := ho.1 tb htb
    have hbg := m_121 (L := L) (xs := xs) (t := t) (d := 4 * n + 14) (sl := 0) (D := E) hX.1 (by omega) hX.2.2.1 hX.2.2.2 (by omega)
    have hm12 : max σ.2.2 E ≤ 12 := by have := hX.2.2.2; omega
    have hE2 := KE_b (u := σ.2.1 + 1) (v := max σ.2.2 E) hE (by omega) hm12
    have fb : frE E E C (sI (sI C 24 7 (nI (σ.2.1 + 1))) 24 8 (nI (max σ.2.2 E))) := frE_b
    have B : KB (sI (sI C 24 7 (nI (σ.2.1 + 1))) 24 8 (nI (max σ.2.2 E))) t S (σ.1, σ.2.1 + 1, max σ.2.2 E) E (wN (sWd S) tb 0) (wO (sWd S) tb 0) N O := ⟨KS_k K fb stk_r, hE2, ⟨hw6, show (0 : Nat) ≤ 6 by decide⟩, hB, fun c hc => absurd (show c < 0 from hc) (by omega)⟩
    have hf1 := m_122 (sl := 0) (ti := 0) (ev := 0) ho hS (by omega) hE1 htb (by omega) (by omega) B
    have e0 : stp S (n + 1) 0 tb 0 O N σ = match fir S (stp S n) tb 0 0 O (N, (σ.1, σ.2.1 + 1, max σ.2.2 E)) with | (s, some e) => (s.2, some e) | (s, none) => stp2 S (stp S n) 0 tb 0 O s.1 s.2 := by
      show (if 300 ≤ σ.2.1 then _ else _) = _
      rw [if_neg h3, show 12 - n = E by omega]
      rfl
    cases hq : fir S (stp S n) tb 0 0 O (N, (σ.1, σ.2.1 + 1, max σ.2.2 E)) with
    | mk s oe =>
    rw [hq] at hf1 e0
    cases oe with
    | some e =>
      rw [e0]
      show Wd _ _ _ _ _ (PR C t (sWd S) E E 0 (s.2, some e)) (XR C t E E 0 (s.2, some e))
      refine w_p (pc1 := 1) rfl rfl ?_
      refine w_p (pc1 := 2) rfl rfl ?_
      refine w_je (pc1 := 5) (vs := [.ref 124, .int (nI (E))]) (rest := []) (st1 := []) (hbg) rfl rfl rfl (fun _ _ => rfl) rfl (by exact cl_v my_121 rfl rfl rfl (Nat.le_of_ble_eq_true rfl) rfl (MH_obj rfl rfl) rfl (by decide) rfl rfl) (by rfl) (Nat.le_of_ble_eq_true rfl) (Nat.le_of_ble_eq_true rfl) rfl (by rfl) ?_
      refine w_p (pc1 := 6) rfl rfl ?_
      refine w_p (pc1 := 7) rfl rfl ?_
      refine w_p (pc1 := 8) (st1 := .int 0 :: _) rfl rfl ?_
      refine w_p (pc1 := 9) (st1 := .int 0 :: _) rfl rfl ?_
      refine w_p (pc1 := 10) rfl rfl ?_
      refine w_ji (pc1 := 13) (vs := [.ref 124, .int (nI (tb)), .int 0, .int 0, .int (nI (E))]) (rest := []) (hf1) rfl rfl rfl (fun _ _ => rfl) rfl (by exact cl_v my_122 rfl rfl rfl (Nat.le_of_ble_eq_true rfl) rfl (MH_obj rfl rfl) rfl (by decide) rfl rfl) (by rfl) (Nat.le_of_ble_eq_true rfl) (Nat.le_of_ble_eq_true rfl) rfl (fun v h1 d1 hq => ?_) (fun a h1 d1 hq => ?_)
      · obtain ⟨y1, _⟩ := hq
        cases y1
      · rcases hq with ⟨e9, C9, t9, ⟨z1, z2, z3, z4, z5⟩, ha, hh, hn⟩
        · subst ha; subst hh; subst hn
          refine Or.inl ⟨ch_new (by decide) rfl, ?_⟩
          exact ⟨e9, C9, t9, ⟨z1, z2, z3, frE_t fb z4, z5⟩, rfl, rfl, rfl⟩
    | none =>
      rw [e0]
      show Wd _ _ _ _ _ (PR C t (sWd S) E E 0 (stp2 S (stp S n) 0 tb 0 O s.1 s.2)) (XR C t E E 0 (stp2 S (stp S n) 0 tb 0 O s.1 s.2))
      refine w_p (pc1 := 1) rfl rfl ?_
      refine w_p (pc1 := 2) rfl rfl ?_
      refine w_je (pc1 := 5) (vs := [.ref 124, .int (nI (E))]) (rest := []) (st1 := []) (hbg) rfl rfl rfl (fun _ _ => rfl) rfl (by exact cl_v my_121 rfl rfl rfl (Nat.le_of_ble_eq_true rfl) rfl (MH_obj rfl rfl) rfl (by decide) rfl rfl) (by rfl) (Nat.le_of_ble_eq_true rfl) (Nat.le_of_ble_eq_true rfl) rfl (by rfl) ?_
      refine w_p (pc1 := 6) rfl rfl ?_
      refine w_p (pc1 := 7) rfl rfl ?_
      refine w_p (pc1 := 8) (st1 := .int 0 :: _) rfl rfl ?_
      refine w_p (pc1 := 9) (st1 := .int 0 :: _) rfl rfl ?_
      refine w_p (pc1 := 10) rfl rfl ?_
      refine w_ji (pc1 := 13) (vs := [.ref 124, .int (nI (tb)), .int 0, .int 0, .int (nI (E))]) (rest := []) (hf1) rfl rfl rfl (fun _ _ => rfl) rfl (by exact cl_v my_122 rfl rfl rfl (Nat.le_of_ble_eq_true rfl) rfl (MH_obj rfl rfl) rfl (by decide) rfl rfl) (by rfl) (Nat.le_of_ble_eq_true rfl) (Nat.le_of_ble_eq_true rfl) rfl (fun v h1 d1 hq => ?_) (fun a h1 d1 hq => ?_)
      · obtain ⟨y1, hv, ⟨C1, t1, ⟨y2, y3, y4, y5⟩, hh⟩, hn⟩ := hq
        subst hv; subst hh; subst hn
        replace y2 : KE C1 (sWd S) s.2 := y2
        replace y3 : bfK C1 (46 + E) (wN (sWd S) tb 0) s.1 := y3
        have B1 : KB C1 t1 S s.2 E (sWd S tb) 0 s.1 O := ⟨KS_k (KS_k K fb stk_r) y4 y5, y2, ⟨hw6, by decide⟩, y3, fun c hc => absurd hc (by omega)⟩
        have fE1 : frE E E C C1 := frE_t fb y4
        by_cases hfull : 40 ≤ (s.2.1 tb).1.length
        · have hfl := m_126 (L := L) (xs := xs) (t := t1) (d := 4 * n + 14) (sl := 0) htb (y2.1 tb htb).2.1 (y2.1 tb htb).2.2.1
          rw [if_pos hfull] at hfl
          have e2 : stp2 S (stp S n) 0 tb 0 O s.1 s.2 = (s.2, some (6, 0, 0)) := by unfold stp2; rw [if_pos rfl, if_pos hfull]
          rw [e2]
          refine w_p (pc1 := 14) rfl rfl ?_
          refine w_m0 (pc1 := 17) rfl rfl (h_gC rfl rfl rfl rfl) rfl ?_
          refine w_p (pc1 := 18) rfl rfl ?_
          refine w_je (pc1 := 21) (vs := [.ref 113, .int (nI (tb))]) (rest := []) (st1 := [.int 1]) (hfl) rfl rfl rfl (fun _ _ => rfl) rfl (by exact cl_v my_126 rfl rfl rfl (Nat.le_of_ble_eq_true rfl) rfl (MH_obj rfl rfl) rfl (by decide) rfl rfl) (by rfl) (Nat.le_of_ble_eq_true rfl) (Nat.le_of_ble_eq_true rfl) rfl (by rfl) ?_
          refine w_f (a := 30) (b := 24) rfl rfl rfl ?_
          refine w_p (pc1 := 25) rfl rfl ?_
          refine w_p (pc1 := 27) (st1 := .int 6 :: _) rfl rfl ?_
          refine w_ji (pc1 := 30) (vs := [.ref 124, .int 6]) (rest := []) (m_119 (d := 4 * n + 9) (sl := 0)) rfl rfl rfl (fun _ _ => rfl) rfl (by exact cl_v my_119 rfl rfl rfl (Nat.le_of_ble_eq_true rfl) rfl (MH_obj rfl rfl) rfl (by decide) rfl rfl) (by rfl) (Nat.le_of_ble_eq_true rfl) (Nat.le_of_ble_eq_true rfl) rfl (fun v h1 d1 hq => ?_) (fun a h1 d1 hq => ?_)
          · exact hq.elim
          · rcases hq with ⟨ha, hh, hn⟩
            · subst ha; subst hh; subst hn
              refine Or.inl ⟨ch_new (by decide) rfl, ?_⟩
              exact ⟨(6, 0, 0), sI C1 24 6 6, t1, ⟨rfl, y2.2.2, spK_6, frE_t fE1 frE_s, y5⟩, rfl, rfl, rfl⟩
        · have hfl := m_126 (L := L) (xs := xs) (t := t1) (d := 4 * n + 14) (sl := 0) htb (y2.1 tb htb).2.1 (y2.1 tb htb).2.2.1
          rw [if_neg hfull] at hfl
          have e2 : stp2 S (stp S n) 0 tb 0 O s.1 s.2 = ((fir S (stp S n) tb 1 0 O (s.1, (rsA s.2.1 tb s.1, s.2.2))).1.2, (fir S (stp S n) tb 1 0 O (s.1, (rsA s.2.1 tb s.1, s.2.2))).2) := by unfold stp2; rw [if_pos rfl, if_neg hfull]
          rw [e2]
          have hap := m_127 (L := L) (xs := xs) (t := t1) (d := 4 * n + 13) (sl := 0) (kr := 46 + E) (l := []) (skF (by omega)) y2.1 htb (by omega)
          have fap : frE E E C1 (apC C1 (46 + E) tb (s.2.1 tb).1.length) := frE_ap
          have hE3 : KE (apC C1 (46 + E) tb (s.2.1 tb).1.length) (sWd S) (rsA s.2.1 tb s.1, s.2.2) := KE_ap (by omega) y2 htb (by omega) y3
          have B3 : KB (apC C1 (46 + E) tb (s.2.1 tb).1.length) t1 S (rsA s.2.1 tb s.1, s.2.2) E (wN (sWd S) tb 0) (wO (sWd S) tb 0) s.1 O := ⟨KS_k B1.1 fap stk_r, hE3, ⟨hw6, show (0 : Nat) ≤ 6 by decide⟩, fun c hc => (wr_o (by omega)).trans (y3 c hc), fun c hc => absurd (show c < 0 from hc) (by omega)⟩
          have hf2 := m_122 (sl := 0) (ti := 1) (ev := 0) ho hS (by omega) hE1 htb (by omega) (by omega) B3
          refine w_p (pc1 := 14) rfl rfl ?_
          refine w_m0 (pc1 := 17) rfl rfl (h_gC rfl rfl rfl rfl) rfl ?_
          refine w_p (pc1 := 18) rfl rfl ?_
          refine w_je (pc1 := 21) (vs := [.ref 113, .int (nI (tb))]) (rest := []) (st1 := [.int 0]) (hfl) rfl rfl rfl (fun _ _ => rfl) rfl (by exact cl_v my_126 rfl rfl rfl (Nat.le_of_ble_eq_true rfl) rfl (MH_obj rfl rfl) rfl (by decide) rfl rfl) (by rfl) (Nat.le_of_ble_eq_true rfl) (Nat.le_of_ble_eq_true rfl) rfl (by rfl) ?_
          refine w_t (a := 30) (b := 24) rfl rfl rfl ?_
          refine w_p (pc1 := 31) rfl rfl ?_
          refine w_m0 (pc1 := 34) rfl rfl (h_gC rfl rfl rfl rfl) rfl ?_
          refine w_p (pc1 := 35) rfl rfl ?_
          refine w_p (pc1 := 36) rfl rfl ?_
          refine w_m0 (pc1 := 39) rfl rfl (h_gC rfl rfl rfl rfl) rfl ?_
          refine w_p (pc1 := 40) rfl rfl ?_
          refine w_m0 (pc1 := 41) (st1 := .ref (46 + E + 100) :: _) rfl rfl (n_als (e := E) rfl rfl (by decide) rfl (by omega) (KS_fr B1.1 (by omega))) rfl ?_
          refine w_je (pc1 := 44) (vs := [.ref 113, .int (nI (tb)), .ref (46 + E + 100)]) (rest := []) (st1 := []) (hap) rfl rfl rfl (fun _ _ => rfl) rfl (by exact cl_v my_127 rfl rfl rfl (Nat.le_of_ble_eq_true rfl) rfl (MH_obj rfl rfl) rfl (by decide) rfl rfl) (by rfl) (Nat.le_of_ble_eq_true rfl) (Nat.le_of_ble_eq_true rfl) rfl (by rfl) ?_
          refine w_p (pc1 := 45) rfl rfl ?_
          refine w_p (pc1 := 46) rfl rfl ?_
          refine w_p (pc1 := 47) (st1 := .int 1 :: _) rfl rfl ?_
          refine w_p (pc1 := 48) (st1 := .int 0 :: _) rfl rfl ?_
          refine w_p (pc1 := 49) rfl rfl ?_
          refine w_ji (pc1 := 52) (vs := [.ref 124, .int (nI (tb)), .int 1, .int 0, .int (nI (E))]) (rest := []) (hf2) rfl rfl rfl (fun _ _ => rfl) rfl (by exact cl_v my_122 rfl rfl rfl (Nat.le_of_ble_eq_true rfl) rfl (MH_obj rfl rfl) rfl (by decide) rfl rfl) (by rfl) (Nat.le_of_ble_eq_true rfl) (Nat.le_of_ble_eq_true rfl) rfl (fun v h1 d1 hq => ?_) (fun a h1 d1 hq => ?_)
          · obtain ⟨z1, hv, ⟨C9, t9, ⟨z2, z6, z3, z4⟩, hh⟩, hn⟩ := hq
            subst hv; subst hh; subst hn
            refine w_r rfl rfl rfl (fun _ _ => rfl) rfl ?_
            exact ⟨z1, rfl, ⟨C9, t9, ⟨z2, frE_t fE1 (frE_t fap z3), stk_t y5 z4⟩, rfl⟩, rfl⟩
          · rcases hq with ⟨e9, C9, t9, ⟨z1, z2, z3, z4, z5⟩, ha, hh, hn⟩
            · subst ha; subst hh; subst hn
              refine Or.inl ⟨ch_new (by decide) rfl, ?_⟩
              exact ⟨e9, C9, t9, ⟨z1, z2, z3, frE_t fE1 (frE_t fap z4), stk_t y5 z5⟩, rfl, rfl, rfl⟩
      · rcases hq with ⟨e9, C9, t9, ⟨z1, _⟩, _⟩
        · cases z1
set_option maxRecDepth 100000 in
theorem STP_s1 (ho : okSt S) (hS : STP L xs S n (E + 1)) (hn : n + 1 + E = 13) (hE1 : 1 ≤ E) : STP1 L xs S (n + 1) E := by
  intro tb i O N σ C t htb K hE hO hB
  by_cases h3 : 300 ≤ σ.2.1
  · exact Wd_up (by omega) (st_x1 (d := 4 * n + 8) hE (Or.inl h3) (by omega) (stp_s h3))
  · have hX := hE.2.2
    have hw6 := ho.1 tb htb
    have hbg := m_121 (L := L) (xs := xs) (t := t) (d := 4 * n + 14) (sl := 0) (D := E) hX.1 (by omega) hX.2.2.1 hX.2.2.2 (by omega)
    have hm12 : max σ.2.2 E ≤ 12 := by have := hX.2.2.2; omega
    have hE2 := KE_b (u := σ.2.1 + 1) (v := max σ.2.2 E) hE (by omega) hm12
    have fb : frE E E C (sI (sI C 24 7 (nI (σ.2.1 + 1))) 24 8 (nI (max σ.2.2 E))) := frE_b
    have B : KB (sI (sI C 24 7 (nI (σ.2.1 + 1))) 24 8 (nI (max σ.2.2 E))) t S (σ.1, σ.2.1 + 1, max σ.2.2 E) E (wN (sWd S) tb 1) (wO (sWd S) tb 1) N O := ⟨KS_k K fb stk_r, hE2, ⟨hw6, hw6⟩, hB, hO⟩
    have hf1 := m_122 (sl := 0) (ti := 0) (ev := 1) ho hS (by omega) hE1 htb (by omega) (by omega) B
    have e0 : stp S (n + 1) 1 tb i O N σ = match fir S (stp S n) tb 0 1 O (N, (σ.1, σ.2.1 + 1, max σ.2.2 E)) with | (s, some e) => (s.2, some e) | (s, none) => stp2 S (stp S n) 1 tb i O s.1 s.2 := by
      show (if 300 ≤ σ.2.1 then _ else _) = _
      rw [if_neg h3, show 12 - n = E by omega]
      rfl
    cases hq : fir S (stp S n) tb 0 1 O (N, (σ.1, σ.2.1 + 1, max σ.2.2 E)) with
    | mk s oe =>
    rw [hq] at hf1 e0
    cases oe with
    | some e =>
      rw [e0]
      show Wd _ _ _ _ _ (PR C t (sWd S) E E 0 (s.2, some e)) (XR C t E E 0 (s.2, some e))
      refine w_p (pc1 := 1) rfl rfl ?_
      refine w_p (pc1 := 2) rfl rfl ?_
      refine w_je (pc1 := 5) (vs := [.ref 124, .int (nI (E))]) (rest := []) (st1 := []) (hbg) rfl rfl rfl (fun _ _ => rfl) rfl (by exact cl_v my_121 rfl rfl rfl (Nat.le_of_ble_eq_true rfl) rfl (MH_obj rfl rfl) rfl (by decide) rfl rfl) (by rfl) (Nat.le_of_ble_eq_true rfl) (Nat.le_of_ble_eq_true rfl) rfl (by rfl) ?_
      refine w_p (pc1 := 6) rfl rfl ?_
      refine w_p (pc1 := 7) rfl rfl ?_
      refine w_p (pc1 := 8) (st1 := .int 0 :: _) rfl rfl ?_
      refine w_p (pc1 := 9) (st1 := .int 1 :: _) rfl rfl ?_
      refine w_p (pc1 := 10) rfl rfl ?_
      refine w_ji (pc1 := 13) (vs := [.ref 124, .int (nI (tb)), .int 0, .int 1, .int (nI (E))]) (rest := []) (hf1) rfl rfl rfl (fun _ _ => rfl) rfl (by exact cl_v my_122 rfl rfl rfl (Nat.le_of_ble_eq_true rfl) rfl (MH_obj rfl rfl) rfl (by decide) rfl rfl) (by rfl) (Nat.le_of_ble_eq_true rfl) (Nat.le_of_ble_eq_true rfl) rfl (fun v h1 d1 hq => ?_) (fun a h1 d1 hq => ?_)
      · obtain ⟨y1, _⟩ := hq
        cases y1
      · rcases hq with ⟨e9, C9, t9, ⟨z1, z2, z3, z4, z5⟩, ha, hh, hn⟩
        · subst ha; subst hh; subst hn
          refine Or.inl ⟨ch_new (by decide) rfl, ?_⟩
          exact ⟨e9, C9, t9, ⟨z1, z2, z3, frE_t fb z4, z5⟩, rfl, rfl, rfl⟩
    | none =>
      rw [e0]
      show Wd _ _ _ _ _ (PR C t (sWd S) E E 0 (stp2 S (stp S n) 1 tb i O s.1 s.2)) (XR C t E E 0 (stp2 S (stp S n) 1 tb i O s.1 s.2))
      refine w_p (pc1 := 1) rfl rfl ?_
      refine w_p (pc1 := 2) rfl rfl ?_
      refine w_je (pc1 := 5) (vs := [.ref 124, .int (nI (E))]) (rest := []) (st1 := []) (hbg) rfl rfl rfl (fun _ _ => rfl) rfl (by exact cl_v my_121 rfl rfl rfl (Nat.le_of_ble_eq_true rfl) rfl (MH_obj rfl rfl) rfl (by decide) rfl rfl) (by rfl) (Nat.le_of_ble_eq_true rfl) (Nat.le_of_ble_eq_true rfl) rfl (by rfl) ?_
      refine w_p (pc1 := 6) rfl rfl ?_
      refine w_p (pc1 := 7) rfl rfl ?_
      refine w_p (pc1 := 8) (st1 := .int 0 :: _) rfl rfl ?_
      refine w_p (pc1 := 9) (st1 := .int 1 :: _) rfl rfl ?_
      refine w_p (pc1 := 10) rfl rfl ?_
      refine w_ji (pc1 := 13) (vs := [.ref 124, .int (nI (tb)), .int 0, .int 1, .int (nI (E))]) (rest := []) (hf1) rfl rfl rfl (fun _ _ => rfl) rfl (by exact cl_v my_122 rfl rfl rfl (Nat.le_of_ble_eq_true rfl) rfl (MH_obj rfl rfl) rfl (by decide) rfl rfl) (by rfl) (Nat.le_of_ble_eq_true rfl) (Nat.le_of_ble_eq_true rfl) rfl (fun v h1 d1 hq => ?_) (fun a h1 d1 hq => ?_)
      · obtain ⟨y1, hv, ⟨C1, t1, ⟨y2, y3, y4, y5⟩, hh⟩, hn⟩ := hq
        subst hv; subst hh; subst hn
        replace y2 : KE C1 (sWd S) s.2 := y2
        replace y3 : bfK C1 (46 + E) (wN (sWd S) tb 1) s.1 := y3
        have B1 : KB C1 t1 S s.2 E (wN (sWd S) tb 1) (wO (sWd S) tb 1) s.1 O := ⟨KS_k (KS_k K fb stk_r) y4 y5, y2, B.2.2.1, y3, bfK_E y4 (by omega) B.2.2.2.2⟩
        have fE1 : frE E E C C1 := frE_t fb y4
        have hrw := rowK (L := L) (xs := xs) (t := t1) (d := 4 * n + 13) (sl := 0) (i := i) y2.1 htb
        have e2 : stp2 S (stp S n) 1 tb i O s.1 s.2 = match fdr i (s.2.1 tb).1 0 with | none => (s.2, none) | some (k, r) => (match fol S (stp S n) tb 1 i O s.1 (rsW s.2.1 tb k (r.1, s.1), s.2.2) with | (σ1, some e) => (σ1, some e) | (σ1, none) => (((fir S (stp S n) tb 1 1 O (s.1, σ1)).1.2, (fir S (stp S n) tb 1 1 O (s.1, σ1)).2))) := by unfold stp2; rw [if_neg (by decide)]; rfl
        cases hfd : fdr i (s.2.1 tb).1 0 with
        | none =>
          rw [hfd] at hrw e2
          rw [e2]
          refine w_p (pc1 := 14) rfl rfl ?_
          refine w_m0 (pc1 := 17) rfl rfl (h_gC rfl rfl rfl rfl) rfl ?_
          refine w_p (pc1 := 18) rfl rfl ?_
          refine w_p (pc1 := 19) rfl rfl ?_
          refine w_je (pc1 := 22) (vs := [.ref 113, .int (nI (tb)), .int (i)]) (rest := []) (st1 := [.int (-1)]) (hrw) rfl rfl rfl (fun _ _ => rfl) rfl (by exact cl_v my_132 rfl rfl rfl (Nat.le_of_ble_eq_true rfl) rfl (MH_obj rfl rfl) rfl (by decide) rfl rfl) (by rfl) (Nat.le_of_ble_eq_true rfl) (Nat.le_of_ble_eq_true rfl) rfl (by rfl) ?_
          refine w_p (pc1 := 24) (al1 := [(4, .int (-1)), (0, .ref 124), (1, .int (nI (tb))), (2, .int (i)), (3, .int (nI (E)))]) rfl rfl ?_
          refine w_p (pc1 := 26) rfl rfl ?_
          refine w_p (pc1 := 27) (st1 := .int (-1) :: _) rfl rfl ?_
          refine w_f (a := 31) (b := 30) rfl rfl rfl ?_
          refine w_r rfl rfl rfl (fun _ _ => rfl) rfl ?_
          exact ⟨rfl, rfl, ⟨C1, t1, ⟨y2, fE1, y5⟩, rfl⟩, rfl⟩
        | some q =>
          obtain ⟨k, r⟩ := q
          rw [hfd] at hrw
          have e2 : stp2 S (stp S n) 1 tb i O s.1 s.2 = (match fol S (stp S n) tb 1 i O s.1 (rsW s.2.1 tb k (r.1, s.1), s.2.2) with | (σ1, some e) => (σ1, some e) | (σ1, none) => (((fir S (stp S n) tb 1 1 O (s.1, σ1)).1.2, (fir S (stp S n) tb 1 1 O (s.1, σ1)).2))) := by rw [e2, hfd]
          obtain ⟨-, hr, hr1⟩ := fdr_s hfd
          rw [Nat.sub_zero] at hr
          have hkl := get_lt hr
          have h40 := (y2.1 tb htb).2.2.1
          have hop := m_128 (L := L) (xs := xs) (t := t1) (d := 4 * n + 14) (sl := 0) (kr := 46 + E) (l := []) (skF (by omega)) y2.1 htb hkl
          have fop : frE E (E + 1) C1 (wrC C1 (46 + E) ((tb * 40 + k) * 6)) := frE_wr
          have hE3 : KE (wrC C1 (46 + E) ((tb * 40 + k) * 6)) (sWd S) (rsW s.2.1 tb k (r.1, s.1), s.2.2) := KE_wr (by omega) y2 htb hr y3
          have B3 : KB (wrC C1 (46 + E) ((tb * 40 + k) * 6)) t1 S (rsW s.2.1 tb k (r.1, s.1), s.2.2) E (wN (sWd S) tb 1) (wO (sWd S) tb 1) s.1 O := KB_n B1 (by omega) fop stk_r hE3
          have hfo := Wd_up (d := 4 * n + 12 + 3) (by omega) (m_136_1 (L := L) (xs := xs) (sl := 0) (i0 := i) ho hS (by omega) htb (show wN (sWd S) tb 1 = sWd S tb from rfl) (show KB _ t1 S _ E (wN (sWd S) tb 1) (sWd S tb) s.1 O from B3))
          cases hfol : fol S (stp S n) tb 1 i O s.1 (rsW s.2.1 tb k (r.1, s.1), s.2.2) with
          | mk σ1 oe1 =>
          rw [hfol] at hfo e2
          cases oe1 with
          | some e =>
            have e2 : stp2 S (stp S n) 1 tb i O s.1 s.2 = (σ1, some e) := e2
            rw [e2]
            refine w_p (pc1 := 14) rfl rfl ?_
            refine w_m0 (pc1 := 17) rfl rfl (h_gC rfl rfl rfl rfl) rfl ?_
            refine w_p (pc1 := 18) rfl rfl ?_
            refine w_p (pc1 := 19) rfl rfl ?_
            refine w_je (pc1 := 22) (vs := [.ref 113, .int (nI (tb)), .int (i)]) (rest := []) (st1 := [.int (nI (k))]) (hrw) rfl rfl rfl (fun _ _ => rfl) rfl (by exact cl_v my_132 rfl rfl rfl (Nat.le_of_ble_eq_true rfl) rfl (MH_obj rfl rfl) rfl (by decide) rfl rfl) (by rfl) (Nat.le_of_ble_eq_true rfl) (Nat.le_of_ble_eq_true rfl) rfl (by rfl) ?_
            refine w_p (pc1 := 24) (al1 := [(4, .int (nI (k))), (0, .ref 124), (1, .int (nI (tb))), (2, .int (i)), (3, .int (nI (E)))]) rfl rfl ?_
            refine w_p (pc1 := 26) rfl rfl ?_
            refine w_p (pc1 := 27) (st1 := .int (-1) :: _) rfl rfl ?_
            refine w_t (a := 31) (b := 30) (cb_ne_t (by exact nK_m1 (by omega))) rfl rfl ?_
            refine w_p (pc1 := 32) rfl rfl ?_
            refine w_m0 (pc1 := 35) rfl rfl (h_gC rfl rfl rfl rfl) rfl ?_
            refine w_p (pc1 := 36) rfl rfl ?_
            refine w_p (pc1 := 38) rfl rfl ?_
            refine w_p (pc1 := 39) rfl rfl ?_
            refine w_m0 (pc1 := 42) rfl rfl (h_gC rfl rfl rfl rfl) rfl ?_
            refine w_p (pc1 := 43) rfl rfl ?_
            refine w_m0 (pc1 := 44) (st1 := .ref (46 + E + 100) :: _) rfl rfl (n_als (e := E) rfl rfl (by decide) rfl (by omega) (KS_fr B1.1 (by omega))) rfl ?_
            refine w_je (pc1 := 47) (vs := [.ref 113, .int (nI (tb)), .int (nI (k)), .ref (46 + E + 100)]) (rest := []) (st1 := []) (hop) rfl rfl rfl (fun _ _ => rfl) rfl (by exact cl_v my_128 rfl rfl rfl (Nat.le_of_ble_eq_true rfl) rfl (MH_obj rfl rfl) rfl (by decide) rfl rfl) (by rfl) (Nat.le_of_ble_eq_true rfl) (Nat.le_of_ble_eq_true rfl) rfl (by rfl) ?_
            refine w_p (pc1 := 48) rfl rfl ?_
            refine w_p (pc1 := 49) rfl rfl ?_
            refine w_p (pc1 := 50) rfl rfl ?_
            refine w_p (pc1 := 51) (st1 := .int 1 :: _) rfl rfl ?_
            refine w_p (pc1 := 52) rfl rfl ?_
            refine w_ji (pc1 := 55) (vs := [.ref 124, .int (nI (tb)), .int (i), .int 1, .int (nI (E))]) (rest := []) (hfo) rfl rfl rfl (fun _ _ => rfl) rfl (by exact cl_v my_136 rfl rfl rfl (Nat.le_of_ble_eq_true rfl) rfl (MH_obj rfl rfl) rfl (by decide) rfl rfl) (by rfl) (Nat.le_of_ble_eq_true rfl) (Nat.le_of_ble_eq_true rfl) rfl (fun v h1 d1 hq => ?_) (fun a h1 d1 hq => ?_)
            · obtain ⟨y1, _⟩ := hq
              cases y1
            · rcases hq with ⟨e9, C9, t9, ⟨z1, z2, z3, z4, z5⟩, ha, hh, hn⟩
              · subst ha; subst hh; subst hn
                refine Or.inl ⟨ch_new (by decide) rfl, ?_⟩
                exact ⟨e9, C9, t9, ⟨z1, z2, z3, frE_t fE1 (frE_u (frE_t fop z4) (by omega) (by omega)), stk_t y5 z5⟩, rfl, rfl, rfl⟩
          | none =>
            have e2 : stp2 S (stp S n) 1 tb i O s.1 s.2 = ((fir S (stp S n) tb 1 1 O (s.1, σ1)).1.2, (fir S (stp S n) tb 1 1 O (s.1, σ1)).2) := e2
            rw [e2]
            refine w_p (pc1 := 14) rfl rfl ?_
            refine w_m0 (pc1 := 17) rfl rfl (h_gC rfl rfl rfl rfl) rfl ?_
            refine w_p (pc1 := 18) rfl rfl ?_
            refine w_p (pc1 := 19) rfl rfl ?_
            refine w_je (pc1 := 22) (vs := [.ref 113, .int (nI (tb)), .int (i)]) (rest := []) (st1 := [.int (nI (k))]) (hrw) rfl rfl rfl (fun _ _ => rfl) rfl (by exact cl_v my_132 rfl rfl rfl (Nat.le_of_ble_eq_true rfl) rfl (MH_obj rfl rfl) rfl (by decide) rfl rfl) (by rfl) (Nat.le_of_ble_eq_true rfl) (Nat.le_of_ble_eq_true rfl) rfl (by rfl) ?_
            refine w_p (pc1 := 24) (al1 := [(4, .int (nI (k))), (0, .ref 124), (1, .int (nI (tb))), (2, .int (i)), (3, .int (nI (E)))]) rfl rfl ?_
            refine w_p (pc1 := 26) rfl rfl ?_
            refine w_p (pc1 := 27) (st1 := .int (-1) :: _) rfl rfl ?_
            refine w_t (a := 31) (b := 30) (cb_ne_t (by exact nK_m1 (by omega))) rfl rfl ?_
            refine w_p (pc1 := 32) rfl rfl ?_
            refine w_m0 (pc1 := 35) rfl rfl (h_gC rfl rfl rfl rfl) rfl ?_
            refine w_p (pc1 := 36) rfl rfl ?_
            refine w_p (pc1 := 38) rfl rfl ?_
            refine w_p (pc1 := 39) rfl rfl ?_
            refine w_m0 (pc1 := 42) rfl rfl (h_gC rfl rfl rfl rfl) rfl ?_
            refine w_p (pc1 := 43) rfl rfl ?_
            refine w_m0 (pc1 := 44) (st1 := .ref (46 + E + 100) :: _) rfl rfl (n_als (e := E) rfl rfl (by decide) rfl (by omega) (KS_fr B1.1 (by omega))) rfl ?_
            refine w_je (pc1 := 47) (vs := [.ref 113, .int (nI (tb)), .int (nI (k)), .ref (46 + E + 100)]) (rest := []) (st1 := []) (hop) rfl rfl rfl (fun _ _ => rfl) rfl (by exact cl_v my_128 rfl rfl rfl (Nat.le_of_ble_eq_true rfl) rfl (MH_obj rfl rfl) rfl (by decide) rfl rfl) (by rfl) (Nat.le_of_ble_eq_true rfl) (Nat.le_of_ble_eq_true rfl) rfl (by rfl) ?_
            refine w_p (pc1 := 48) rfl rfl ?_
            refine w_p (pc1 := 49) rfl rfl ?_
            refine w_p (pc1 := 50) rfl rfl ?_
            refine w_p (pc1 := 51) (st1 := .int 1 :: _) rfl rfl ?_
            refine w_p (pc1 := 52) rfl rfl ?_
            refine w_ji (pc1 := 55) (vs := [.ref 124, .int (nI (tb)), .int (i), .int 1, .int (nI (E))]) (rest := []) (hfo) rfl rfl rfl (fun _ _ => rfl) rfl (by exact cl_v my_136 rfl rfl rfl (Nat.le_of_ble_eq_true rfl) rfl (MH_obj rfl rfl) rfl (by decide) rfl rfl) (by rfl) (Nat.le_of_ble_eq_true rfl) (Nat.le_of_ble_eq_true rfl) rfl (fun v h1 d1 hq => ?_) (fun a h1 d1 hq => ?_)
            · obtain ⟨x1, hv, ⟨C2, t2, ⟨x2, x3, x4⟩, hh⟩, hn⟩ := hq
              subst hv; subst hh; subst hn
              have B4 : KB C2 t2 S σ1 E (wN (sWd S) tb 1) (wO (sWd S) tb 1) s.1 O := KB_n B3 (by omega) x3 x4 x2
              have hf2 := m_122 (sl := 0) (ti := 1) (ev := 1) ho hS (by omega) hE1 htb (by omega) (by omega) B4
              have fE2 : frE E E C C2 := frE_t fE1 (frE_u (frE_t fop x3) (by omega) (by omega))
              refine w_p (pc1 := 56) rfl rfl ?_
              refine w_p (pc1 := 57) rfl rfl ?_
              refine w_p (pc1 := 58) (st1 := .int 1 :: _) rfl rfl ?_
              refine w_p (pc1 := 59) (st1 := .int 1 :: _) rfl rfl ?_
              refine w_p (pc1 := 60) rfl rfl ?_
              refine w_ji (pc1 := 63) (vs := [.ref 124, .int (nI (tb)), .int 1, .int 1, .int (nI (E))]) (rest := []) (hf2) rfl rfl rfl (fun _ _ => rfl) rfl (by exact cl_v my_122 rfl rfl rfl (Nat.le_of_ble_eq_true rfl) rfl (MH_obj rfl rfl) rfl (by decide) rfl rfl) (by rfl) (Nat.le_of_ble_eq_true rfl) (Nat.le_of_ble_eq_true rfl) rfl (fun v h1 d1 hq => ?_) (fun a h1 d1 hq => ?_)
              · obtain ⟨z1, hv, ⟨C9, t9, ⟨z2, z6, z3, z4⟩, hh⟩, hn⟩ := hq
                subst hv; subst hh; subst hn
                refine w_r rfl rfl rfl (fun _ _ => rfl) rfl ?_
                exact ⟨z1, rfl, ⟨C9, t9, ⟨z2, frE_t fE2 z3, stk_t y5 (stk_t x4 z4)⟩, rfl⟩, rfl⟩
              · rcases hq with ⟨e9, C9, t9, ⟨z1, z2, z3, z4, z5⟩, ha, hh, hn⟩
                · subst ha; subst hh; subst hn
                  refine Or.inl ⟨ch_new (by decide) rfl, ?_⟩
                  exact ⟨e9, C9, t9, ⟨z1, z2, z3, frE_t fE2 z4, stk_t y5 (stk_t x4 z5)⟩, rfl, rfl, rfl⟩
            · rcases hq with ⟨e9, C9, t9, ⟨z1, _⟩, _⟩
              · cases z1
      · rcases hq with ⟨e9, C9, t9, ⟨z1, _⟩, _⟩
        · cases z1
set_option maxRecDepth 100000 in
theorem STP_s2 (ho : okSt S) (hS : STP L xs S n (E + 1)) (hn : n + 1 + E = 13) (hE1 : 1 ≤ E) : STP2 L xs S (n + 1) E := by
  intro tb i O N σ C t htb K hE hO
  by_cases h3 : 300 ≤ σ.2.1
  · exact Wd_up (by omega) (st_x2 (d := 4 * n + 8) hE (Or.inl h3) (by omega) (stp_s h3))
  · have hX := hE.2.2
    have hw6 := ho.1 tb htb
    have hbg := m_121 (L := L) (xs := xs) (t := t) (d := 4 * n + 14) (sl := 0) (D := E) hX.1 (by omega) hX.2.2.1 hX.2.2.2 (by omega)
    have hm12 : max σ.2.2 E ≤ 12 := by have := hX.2.2.2; omega
    have hE2 := KE_b (u := σ.2.1 + 1) (v := max σ.2.2 E) hE (by omega) hm12
    have fb : frE E E C (sI (sI C 24 7 (nI (σ.2.1 + 1))) 24 8 (nI (max σ.2.2 E))) := frE_b
    have B : KB (sI (sI C 24 7 (nI (σ.2.1 + 1))) 24 8 (nI (max σ.2.2 E))) t S (σ.1, σ.2.1 + 1, max σ.2.2 E) E (wN (sWd S) tb 2) (wO (sWd S) tb 2) N O := ⟨KS_k K fb stk_r, hE2, ⟨show (0 : Nat) ≤ 6 by decide, hw6⟩, fun c hc => absurd (show c < 0 from hc) (by omega), hO⟩
    have hf1 := m_122 (sl := 0) (ti := 0) (ev := 2) ho hS (by omega) hE1 htb (by omega) (by omega) B
    have e0 : stp S (n + 1) 2 tb i O N σ = match fir S (stp S n) tb 0 2 O (N, (σ.1, σ.2.1 + 1, max σ.2.2 E)) with | (s, some e) => (s.2, some e) | (s, none) => stp2 S (stp S n) 2 tb i O s.1 s.2 := by
      show (if 300 ≤ σ.2.1 then _ else _) = _
      rw [if_neg h3, show 12 - n = E by omega]
      rfl
    cases hq : fir S (stp S n) tb 0 2 O (N, (σ.1, σ.2.1 + 1, max σ.2.2 E)) with
    | mk s oe =>
    rw [hq] at hf1 e0
    cases oe with
    | some e =>
      rw [e0]
      show Wd _ _ _ _ _ (PR C t (sWd S) E E 0 (s.2, some e)) (XR C t E E 0 (s.2, some e))
      refine w_p (pc1 := 1) rfl rfl ?_
      refine w_p (pc1 := 2) rfl rfl ?_
      refine w_je (pc1 := 5) (vs := [.ref 124, .int (nI (E))]) (rest := []) (st1 := []) (hbg) rfl rfl rfl (fun _ _ => rfl) rfl (by exact cl_v my_121 rfl rfl rfl (Nat.le_of_ble_eq_true rfl) rfl (MH_obj rfl rfl) rfl (by decide) rfl rfl) (by rfl) (Nat.le_of_ble_eq_true rfl) (Nat.le_of_ble_eq_true rfl) rfl (by rfl) ?_
      refine w_p (pc1 := 6) rfl rfl ?_
      refine w_p (pc1 := 7) rfl rfl ?_
      refine w_p (pc1 := 8) (st1 := .int 0 :: _) rfl rfl ?_
      refine w_p (pc1 := 9) (st1 := .int 2 :: _) rfl rfl ?_
      refine w_p (pc1 := 10) rfl rfl ?_
      refine w_ji (pc1 := 13) (vs := [.ref 124, .int (nI (tb)), .int 0, .int 2, .int (nI (E))]) (rest := []) (hf1) rfl rfl rfl (fun _ _ => rfl) rfl (by exact cl_v my_122 rfl rfl rfl (Nat.le_of_ble_eq_true rfl) rfl (MH_obj rfl rfl) rfl (by decide) rfl rfl) (by rfl) (Nat.le_of_ble_eq_true rfl) (Nat.le_of_ble_eq_true rfl) rfl (fun v h1 d1 hq => ?_) (fun a h1 d1 hq => ?_)
      · obtain ⟨y1, _⟩ := hq
        cases y1
      · rcases hq with ⟨e9, C9, t9, ⟨z1, z2, z3, z4, z5⟩, ha, hh, hn⟩
        · subst ha; subst hh; subst hn
          refine Or.inl ⟨ch_new (by decide) rfl, ?_⟩
          exact ⟨e9, C9, t9, ⟨z1, z2, z3, frE_t fb z4, z5⟩, rfl, rfl, rfl⟩
    | none =>
      rw [e0]
      show Wd _ _ _ _ _ (PR C t (sWd S) E E 0 (stp2 S (stp S n) 2 tb i O s.1 s.2)) (XR C t E E 0 (stp2 S (stp S n) 2 tb i O s.1 s.2))
      refine w_p (pc1 := 1) rfl rfl ?_
      refine w_p (pc1 := 2) rfl rfl ?_
      refine w_je (pc1 := 5) (vs := [.ref 124, .int (nI (E))]) (rest := []) (st1 := []) (hbg) rfl rfl rfl (fun _ _ => rfl) rfl (by exact cl_v my_121 rfl rfl rfl (Nat.le_of_ble_eq_true rfl) rfl (MH_obj rfl rfl) rfl (by decide) rfl rfl) (by rfl) (Nat.le_of_ble_eq_true rfl) (Nat.le_of_ble_eq_true rfl) rfl (by rfl) ?_
      refine w_p (pc1 := 6) rfl rfl ?_
      refine w_p (pc1 := 7) rfl rfl ?_
      refine w_p (pc1 := 8) (st1 := .int 0 :: _) rfl rfl ?_
      refine w_p (pc1 := 9) (st1 := .int 2 :: _) rfl rfl ?_
      refine w_p (pc1 := 10) rfl rfl ?_
      refine w_ji (pc1 := 13) (vs := [.ref 124, .int (nI (tb)), .int 0, .int 2, .int (nI (E))]) (rest := []) (hf1) rfl rfl rfl (fun _ _ => rfl) rfl (by exact cl_v my_122 rfl rfl rfl (Nat.le_of_ble_eq_true rfl) rfl (MH_obj rfl rfl) rfl (by decide) rfl rfl) (by rfl) (Nat.le_of_ble_eq_true rfl) (Nat.le_of_ble_eq_true rfl) rfl (fun v h1 d1 hq => ?_) (fun a h1 d1 hq => ?_)
      · obtain ⟨y1, hv, ⟨C1, t1, ⟨y2, y3, y4, y5⟩, hh⟩, hn⟩ := hq
        subst hv; subst hh; subst hn
        replace y2 : KE C1 (sWd S) s.2 := y2
        replace y3 : bfK C1 (46 + E) (wN (sWd S) tb 2) s.1 := y3
        have B1 : KB C1 t1 S s.2 E (wN (sWd S) tb 2) (wO (sWd S) tb 2) s.1 O := ⟨KS_k (KS_k K fb stk_r) y4 y5, y2, B.2.2.1, y3, bfK_E y4 (by omega) B.2.2.2.2⟩
        have fE1 : frE E E C C1 := frE_t fb y4
        have hrw := rowK (L := L) (xs := xs) (t := t1) (d := 4 * n + 13) (sl := 0) (i := i) y2.1 htb
        have e2 : stp2 S (stp S n) 2 tb i O s.1 s.2 = match fdr i (s.2.1 tb).1 0 with | none => (s.2, none) | some (k, r) => (match fol S (stp S n) tb 2 i O s.1 (rsD s.2.1 tb k, s.2.2) with | (σ1, some e) => (σ1, some e) | (σ1, none) => (((fir S (stp S n) tb 1 2 O (s.1, σ1)).1.2, (fir S (stp S n) tb 1 2 O (s.1, σ1)).2))) := by unfold stp2; rw [if_neg (by decide)]; rfl
        cases hfd : fdr i (s.2.1 tb).1 0 with
        | none =>
          rw [hfd] at hrw e2
          rw [e2]
          refine w_p (pc1 := 14) rfl rfl ?_
          refine w_m0 (pc1 := 17) rfl rfl (h_gC rfl rfl rfl rfl) rfl ?_
          refine w_p (pc1 := 18) rfl rfl ?_
          refine w_p (pc1 := 19) rfl rfl ?_
          refine w_je (pc1 := 22) (vs := [.ref 113, .int (nI (tb)), .int (i)]) (rest := []) (st1 := [.int (-1)]) (hrw) rfl rfl rfl (fun _ _ => rfl) rfl (by exact cl_v my_132 rfl rfl rfl (Nat.le_of_ble_eq_true rfl) rfl (MH_obj rfl rfl) rfl (by decide) rfl rfl) (by rfl) (Nat.le_of_ble_eq_true rfl) (Nat.le_of_ble_eq_true rfl) rfl (by rfl) ?_
          refine w_p (pc1 := 24) (al1 := [(4, .int (-1)), (0, .ref 124), (1, .int (nI (tb))), (2, .int (i)), (3, .int (nI (E)))]) rfl rfl ?_
          refine w_p (pc1 := 26) rfl rfl ?_
          refine w_p (pc1 := 27) (st1 := .int (-1) :: _) rfl rfl ?_
          refine w_f (a := 31) (b := 30) rfl rfl rfl ?_
          refine w_r rfl rfl rfl (fun _ _ => rfl) rfl ?_
          exact ⟨rfl, rfl, ⟨C1, t1, ⟨y2, fE1, y5⟩, rfl⟩, rfl⟩
        | some q =>
          obtain ⟨k, r⟩ := q
          rw [hfd] at hrw
          have e2 : stp2 S (stp S n) 2 tb i O s.1 s.2 = (match fol S (stp S n) tb 2 i O s.1 (rsD s.2.1 tb k, s.2.2) with | (σ1, some e) => (σ1, some e) | (σ1, none) => (((fir S (stp S n) tb 1 2 O (s.1, σ1)).1.2, (fir S (stp S n) tb 1 2 O (s.1, σ1)).2))) := by rw [e2, hfd]
          obtain ⟨-, hr, hr1⟩ := fdr_s hfd
          rw [Nat.sub_zero] at hr
          have hkl := get_lt hr
          have h40 := (y2.1 tb htb).2.2.1
          have hop := m_135 (L := L) (xs := xs) (t := t1) (d := 4 * n + 14) (sl := 0) y2.1 htb hkl
          have fop : frE E (E + 1) C1 (rmC C1 tb k (s.2.1 tb).1.length) := frE_rm
          have hE3 : KE (rmC C1 tb k (s.2.1 tb).1.length) (sWd S) (rsD s.2.1 tb k, s.2.2) := KE_rm y2 htb hkl
          have B3 : KB (rmC C1 tb k (s.2.1 tb).1.length) t1 S (rsD s.2.1 tb k, s.2.2) E (wN (sWd S) tb 2) (wO (sWd S) tb 2) s.1 O := KB_n B1 (by omega) fop stk_r hE3
          have hfo := Wd_up (d := 4 * n + 12 + 3) (by omega) (m_136_2 (L := L) (xs := xs) (sl := 0) (i0 := i) ho hS (by omega) htb (show KB _ t1 S _ E (wN (sWd S) tb 2) (sWd S tb) s.1 O from B3))
          cases hfol : fol S (stp S n) tb 2 i O s.1 (rsD s.2.1 tb k, s.2.2) with
          | mk σ1 oe1 =>
          rw [hfol] at hfo e2
          cases oe1 with
          | some e =>
            have e2 : stp2 S (stp S n) 2 tb i O s.1 s.2 = (σ1, some e) := e2
            rw [e2]
            refine w_p (pc1 := 14) rfl rfl ?_
            refine w_m0 (pc1 := 17) rfl rfl (h_gC rfl rfl rfl rfl) rfl ?_
            refine w_p (pc1 := 18) rfl rfl ?_
            refine w_p (pc1 := 19) rfl rfl ?_
            refine w_je (pc1 := 22) (vs := [.ref 113, .int (nI (tb)), .int (i)]) (rest := []) (st1 := [.int (nI (k))]) (hrw) rfl rfl rfl (fun _ _ => rfl) rfl (by exact cl_v my_132 rfl rfl rfl (Nat.le_of_ble_eq_true rfl) rfl (MH_obj rfl rfl) rfl (by decide) rfl rfl) (by rfl) (Nat.le_of_ble_eq_true rfl) (Nat.le_of_ble_eq_true rfl) rfl (by rfl) ?_
            refine w_p (pc1 := 24) (al1 := [(4, .int (nI (k))), (0, .ref 124), (1, .int (nI (tb))), (2, .int (i)), (3, .int (nI (E)))]) rfl rfl ?_
            refine w_p (pc1 := 26) rfl rfl ?_
            refine w_p (pc1 := 27) (st1 := .int (-1) :: _) rfl rfl ?_
            refine w_t (a := 31) (b := 30) (cb_ne_t (by exact nK_m1 (by omega))) rfl rfl ?_
            refine w_p (pc1 := 32) rfl rfl ?_
            refine w_m0 (pc1 := 35) rfl rfl (h_gC rfl rfl rfl rfl) rfl ?_
            refine w_p (pc1 := 36) rfl rfl ?_
            refine w_p (pc1 := 38) rfl rfl ?_
            refine w_je (pc1 := 41) (vs := [.ref 113, .int (nI (tb)), .int (nI (k))]) (rest := []) (st1 := []) (hop) rfl rfl rfl (fun _ _ => rfl) rfl (by exact cl_v my_135 rfl rfl rfl (Nat.le_of_ble_eq_true rfl) rfl (MH_obj rfl rfl) rfl (by decide) rfl rfl) (by rfl) (Nat.le_of_ble_eq_true rfl) (Nat.le_of_ble_eq_true rfl) rfl (by rfl) ?_
            refine w_p (pc1 := 42) rfl rfl ?_
            refine w_p (pc1 := 43) rfl rfl ?_
            refine w_p (pc1 := 44) rfl rfl ?_
            refine w_p (pc1 := 45) (st1 := .int 2 :: _) rfl rfl ?_
            refine w_p (pc1 := 46) rfl rfl ?_
            refine w_ji (pc1 := 49) (vs := [.ref 124, .int (nI (tb)), .int (i), .int 2, .int (nI (E))]) (rest := []) (hfo) rfl rfl rfl (fun _ _ => rfl) rfl (by exact cl_v my_136 rfl rfl rfl (Nat.le_of_ble_eq_true rfl) rfl (MH_obj rfl rfl) rfl (by decide) rfl rfl) (by rfl) (Nat.le_of_ble_eq_true rfl) (Nat.le_of_ble_eq_true rfl) rfl (fun v h1 d1 hq => ?_) (fun a h1 d1 hq => ?_)
            · obtain ⟨y1, _⟩ := hq
              cases y1
            · rcases hq with ⟨e9, C9, t9, ⟨z1, z2, z3, z4, z5⟩, ha, hh, hn⟩
              · subst ha; subst hh; subst hn
                refine Or.inl ⟨ch_new (by decide) rfl, ?_⟩
                exact ⟨e9, C9, t9, ⟨z1, z2, z3, frE_t fE1 (frE_u (frE_t fop z4) (by omega) (by omega)), stk_t y5 z5⟩, rfl, rfl, rfl⟩
          | none =>
            have e2 : stp2 S (stp S n) 2 tb i O s.1 s.2 = ((fir S (stp S n) tb 1 2 O (s.1, σ1)).1.2, (fir S (stp S n) tb 1 2 O (s.1, σ1)).2) := e2
            rw [e2]
            refine w_p (pc1 := 14) rfl rfl ?_
            refine w_m0 (pc1 := 17) rfl rfl (h_gC rfl rfl rfl rfl) rfl ?_
            refine w_p (pc1 := 18) rfl rfl ?_
            refine w_p (pc1 := 19) rfl rfl ?_
            refine w_je (pc1 := 22) (vs := [.ref 113, .int (nI (tb)), .int (i)]) (rest := []) (st1 := [.int (nI (k))]) (hrw) rfl rfl rfl (fun _ _ => rfl) rfl (by exact cl_v my_132 rfl rfl rfl (Nat.le_of_ble_eq_true rfl) rfl (MH_obj rfl rfl) rfl (by decide) rfl rfl) (by rfl) (Nat.le_of_ble_eq_true rfl) (Nat.le_of_ble_eq_true rfl) rfl (by rfl) ?_
            refine w_p (pc1 := 24) (al1 := [(4, .int (nI (k))), (0, .ref 124), (1, .int (nI (tb))), (2, .int (i)), (3, .int (nI (E)))]) rfl rfl ?_
            refine w_p (pc1 := 26) rfl rfl ?_
            refine w_p (pc1 := 27) (st1 := .int (-1) :: _) rfl rfl ?_
            refine w_t (a := 31) (b := 30) (cb_ne_t (by exact nK_m1 (by omega))) rfl rfl ?_
            refine w_p (pc1 := 32) rfl rfl ?_
            refine w_m0 (pc1 := 35) rfl rfl (h_gC rfl rfl rfl rfl) rfl ?_
            refine w_p (pc1 := 36) rfl rfl ?_
            refine w_p (pc1 := 38) rfl rfl ?_
            refine w_je (pc1 := 41) (vs := [.ref 113, .int (nI (tb)), .int (nI (k))]) (rest := []) (st1 := []) (hop) rfl rfl rfl (fun _ _ => rfl) rfl (by exact cl_v my_135 rfl rfl rfl (Nat.le_of_ble_eq_true rfl) rfl (MH_obj rfl rfl) rfl (by decide) rfl rfl) (by rfl) (Nat.le_of_ble_eq_true rfl) (Nat.le_of_ble_eq_true rfl) rfl (by rfl) ?_
            refine w_p (pc1 := 42) rfl rfl ?_
            refine w_p (pc1 := 43) rfl rfl ?_
            refine w_p (pc1 := 44) rfl rfl ?_
            refine w_p (pc1 := 45) (st1 := .int 2 :: _) rfl rfl ?_
            refine w_p (pc1 := 46) rfl rfl ?_
            refine w_ji (pc1 := 49) (vs := [.ref 124, .int (nI (tb)), .int (i), .int 2, .int (nI (E))]) (rest := []) (hfo) rfl rfl rfl (fun _ _ => rfl) rfl (by exact cl_v my_136 rfl rfl rfl (Nat.le_of_ble_eq_true rfl) rfl (MH_obj rfl rfl) rfl (by decide) rfl rfl) (by rfl) (Nat.le_of_ble_eq_true rfl) (Nat.le_of_ble_eq_true rfl) rfl (fun v h1 d1 hq => ?_) (fun a h1 d1 hq => ?_)
            · obtain ⟨x1, hv, ⟨C2, t2, ⟨x2, x3, x4⟩, hh⟩, hn⟩ := hq
              subst hv; subst hh; subst hn
              have B4 : KB C2 t2 S σ1 E (wN (sWd S) tb 2) (wO (sWd S) tb 2) s.1 O := KB_n B3 (by omega) x3 x4 x2
              have hf2 := m_122 (sl := 0) (ti := 1) (ev := 2) ho hS (by omega) hE1 htb (by omega) (by omega) B4
              have fE2 : frE E E C C2 := frE_t fE1 (frE_u (frE_t fop x3) (by omega) (by omega))
              refine w_p (pc1 := 50) rfl rfl ?_
              refine w_p (pc1 := 51) rfl rfl ?_
              refine w_p (pc1 := 52) (st1 := .int 1 :: _) rfl rfl ?_
              refine w_p (pc1 := 53) (st1 := .int 2 :: _) rfl rfl ?_
              refine w_p (pc1 := 54) rfl rfl ?_
              refine w_ji (pc1 := 57) (vs := [.ref 124, .int (nI (tb)), .int 1, .int 2, .int (nI (E))]) (rest := []) (hf2) rfl rfl rfl (fun _ _ => rfl) rfl (by exact cl_v my_122 rfl rfl rfl (Nat.le_of_ble_eq_true rfl) rfl (MH_obj rfl rfl) rfl (by decide) rfl rfl) (by rfl) (Nat.le_of_ble_eq_true rfl) (Nat.le_of_ble_eq_true rfl) rfl (fun v h1 d1 hq => ?_) (fun a h1 d1 hq => ?_)
              · obtain ⟨z1, hv, ⟨C9, t9, ⟨z2, z6, z3, z4⟩, hh⟩, hn⟩ := hq
                subst hv; subst hh; subst hn
                refine w_r rfl rfl rfl (fun _ _ => rfl) rfl ?_
                exact ⟨z1, rfl, ⟨C9, t9, ⟨z2, frE_t fE2 z3, stk_t y5 (stk_t x4 z4)⟩, rfl⟩, rfl⟩
              · rcases hq with ⟨e9, C9, t9, ⟨z1, z2, z3, z4, z5⟩, ha, hh, hn⟩
                · subst ha; subst hh; subst hn
                  refine Or.inl ⟨ch_new (by decide) rfl, ?_⟩
                  exact ⟨e9, C9, t9, ⟨z1, z2, z3, frE_t fE2 z4, stk_t y5 (stk_t x4 z5)⟩, rfl, rfl, rfl⟩
            · rcases hq with ⟨e9, C9, t9, ⟨z1, _⟩, _⟩
              · cases z1
      · rcases hq with ⟨e9, C9, t9, ⟨z1, _⟩, _⟩
        · cases z1
set_option maxRecDepth 100000 in
theorem STP_all (ho : okSt S) : ∀ n E, n + E = 13 → 1 ≤ E → STP L xs S n E
  | 0, E, h, _ => STP_0 (by omega)
  | n + 1, E, h, h1 => by
    have ih := STP_all ho n (E + 1) (by omega) (by omega)
    exact ⟨STP_s0 ho ih h h1, STP_s1 ho ih h h1, STP_s2 ho ih h h1⟩
end KE7
