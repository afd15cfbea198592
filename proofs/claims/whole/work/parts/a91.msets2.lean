
/-! THE OTHER SIDE READS STATEMENTS, 6: settings, the loop -/
section MSV
variable {L : Nat} {xs : Nat → Int32} {B : Nat → Nat} {n : Nat} {C C' C0 C1 : co_T} {t : ab_H} {d i i0 i1 j b e p k w q : Nat} {U V : Nat → Prop} {c : Int32} {sc : sc_T} {row : Option Nat} {tg : Option (Nat × Nat)} {nl : Option Nat} {E : fe_T} {tr : Nat → Option tr_T}
set_option maxRecDepth 100000 in
theorem lp_242 (hU : U p) (hp4 : p ≤ 40) (hb6 : b < 6) : ∀ (f i : Nat) (nl : Option Nat) (C : co_T) (cs : List Nat) (ss : List (Option (List op_T))) (x : Int32), MS B n U V C0 C i nl → RXM C sc (some b) tg → ITM C p (sIt cs ss) i → cs.length = ss.length → (∀ s, s ∈ ss → s ≠ none) → bsM x cs → nzp (rSet (tkP B n) sc (fE (tkP B n) sc (some b) tg) b f cs i nl) → Wd L xs (d + 8) y_242 (22, [(3, .int 1), (2, .int x), (0, .ref 176), (1, .int (nI b))], [], MH C t, 0) (PCH B n U V C0 C t p (fun a : List Nat × List (Option (List op_T)) => sIt a.1 a.2) (pb (rSet (tkP B n) sc (fE (tkP B n) sc (some b) tg) b f cs i nl) (sPre cs ss))) nX
  | 0, i, nl, C, cs, ss, x, M, R, I, hl, hs, hx, hz => absurd rfl (hz 0)
  | f + 1, i, nl, C, cs, ss, x, M, R, I, hl, hs, hx, hz => by
    have hk1 : kd B n i ≠ 1 := M.2.1.1
    have hi6 := MS_6 M
    have hl5 := I.2.2.2
    have hB := R.2.2.2.1 b rfl
    have hw6 := hB.2.2.1
    rw [set_u]
    by_cases hk : kd B n i = 3
    · have hv : C.2.1 76 7 = vl B n i := by rw [M.2.1.2.2.2.1, hk]; rfl
      by_cases hf : clF sc b (vl B n i) = -1
      · have F := FS_new (c := 4) M (by decide)
        have hy : rCol (tkP B n) sc b cs i = .inl (4, i) := rCol_4 hk hf
        refine w_p (pc1 := 23) rfl rfl ?_
        refine w_f (a := 149) (b := 26) rfl rfl rfl ?_
        refine w_p (pc1 := 27) rfl rfl ?_
        refine w_m0 (pc1 := 30) (st1 := .int 0 :: _) rfl rfl (h_gIe (j := 8) rfl rfl rfl rfl rfl (M.2.1.2.1)) rfl ?_
        refine w_f (a := 149) (b := 33) rfl rfl rfl ?_
        refine w_p (pc1 := 34) rfl rfl ?_
        refine w_je (pc1 := 37) (vs := [.ref 176]) (rest := []) (st1 := [.int 1]) (m_207y (d := _) M hk) rfl rfl rfl (fun _ _ => rfl) rfl (by exact cl_v my_207 rfl rfl rfl (Nat.le_of_ble_eq_true rfl) rfl (MH_obj rfl rfl) rfl (by decide) rfl rfl) (by rfl) (Nat.le_of_ble_eq_true rfl) (Nat.le_of_ble_eq_true rfl) rfl (by rfl) ?_
        refine w_t (a := 41) (b := 40) rfl rfl rfl ?_
        refine w_p (pc1 := 42) rfl rfl ?_
        refine w_p (pc1 := 43) rfl rfl ?_
        refine w_p (pc1 := 44) rfl rfl ?_
        refine w_m0 (pc1 := 47) (st1 := .long (vl B n i) :: _) rfl rfl (h_gJe (j := 7) rfl rfl rfl rfl rfl (hv)) rfl ?_
        refine w_je (pc1 := 50) (vs := [.ref 176, .int (nI (b)), .long (vl B n i)]) (rest := []) (st1 := [.int (-1)]) (m_213r (d := _) (sl := 0) hB hf) rfl rfl rfl (fun _ _ => rfl) rfl (by exact cl_v my_213 rfl rfl rfl (Nat.le_of_ble_eq_true rfl) rfl (MH_obj rfl rfl) rfl (by decide) rfl rfl) (by rfl) (Nat.le_of_ble_eq_true rfl) (Nat.le_of_ble_eq_true rfl) rfl (by rfl) ?_
        refine w_p (pc1 := 52) (al1 := [(4, .int (-1)), (3, .int 1), (2, .int (x)), (0, .ref 176), (1, .int (nI (b)))]) rfl rfl ?_
        refine w_p (pc1 := 54) rfl rfl ?_
        refine w_p (pc1 := 55) (st1 := .int (-1) :: _) rfl rfl ?_
        refine w_f (a := 64) (b := 58) rfl rfl rfl ?_
        refine w_p (pc1 := 59) rfl rfl ?_
        refine w_p (pc1 := 60) (st1 := .int 4 :: _) rfl rfl ?_
        refine w_je (pc1 := 63) (vs := [.ref 176, .int 4]) (rest := []) (st1 := []) (m_200 (d := _) (sl := 0) (fun z => absurd M.2.1.2.1 z)) rfl rfl rfl (fun _ _ => rfl) rfl (by exact cl_v my_200 rfl rfl rfl (Nat.le_of_ble_eq_true rfl) rfl (MH_obj rfl rfl) rfl (by decide) rfl rfl) (by rfl) (Nat.le_of_ble_eq_true rfl) (Nat.le_of_ble_eq_true rfl) rfl (by rfl) ?_
        refine w_r rfl rfl rfl (fun _ _ => rfl) rfl ?_
        exact Or.inr ⟨rfl, ⟨_, ⟨4, i, flS_n (pb_l hy) hk1, F⟩, rfl⟩, rfl⟩
      · obtain ⟨q, hq1, hq2, hq3⟩ := clF_b hw6 hf
        have hq6 : q < 6 := Nat.lt_of_lt_of_le hq2 hw6
        by_cases ha : cs.contains q = true
        · have F := FS_new (c := 3) M (by decide)
          have hy : rCol (tkP B n) sc b cs i = .inl (3, i) := rCol_3 hk hf hq3 ha
          refine w_p (pc1 := 23) rfl rfl ?_
          refine w_f (a := 149) (b := 26) rfl rfl rfl ?_
          refine w_p (pc1 := 27) rfl rfl ?_
          refine w_m0 (pc1 := 30) (st1 := .int 0 :: _) rfl rfl (h_gIe (j := 8) rfl rfl rfl rfl rfl (M.2.1.2.1)) rfl ?_
          refine w_f (a := 149) (b := 33) rfl rfl rfl ?_
          refine w_p (pc1 := 34) rfl rfl ?_
          refine w_je (pc1 := 37) (vs := [.ref 176]) (rest := []) (st1 := [.int 1]) (m_207y (d := _) M hk) rfl rfl rfl (fun _ _ => rfl) rfl (by exact cl_v my_207 rfl rfl rfl (Nat.le_of_ble_eq_true rfl) rfl (MH_obj rfl rfl) rfl (by decide) rfl rfl) (by rfl) (Nat.le_of_ble_eq_true rfl) (Nat.le_of_ble_eq_true rfl) rfl (by rfl) ?_
          refine w_t (a := 41) (b := 40) rfl rfl rfl ?_
          refine w_p (pc1 := 42) rfl rfl ?_
          refine w_p (pc1 := 43) rfl rfl ?_
          refine w_p (pc1 := 44) rfl rfl ?_
          refine w_m0 (pc1 := 47) (st1 := .long (vl B n i) :: _) rfl rfl (h_gJe (j := 7) rfl rfl rfl rfl rfl (hv)) rfl ?_
          refine w_je (pc1 := 50) (vs := [.ref 176, .int (nI (b)), .long (vl B n i)]) (rest := []) (st1 := [.int (nI (q))]) (m_213r (d := _) (sl := 0) hB hq1) rfl rfl rfl (fun _ _ => rfl) rfl (by exact cl_v my_213 rfl rfl rfl (Nat.le_of_ble_eq_true rfl) rfl (MH_obj rfl rfl) rfl (by decide) rfl rfl) (by rfl) (Nat.le_of_ble_eq_true rfl) (Nat.le_of_ble_eq_true rfl) rfl (by rfl) ?_
          refine w_p (pc1 := 52) (al1 := [(4, .int (nI (q))), (3, .int 1), (2, .int (x)), (0, .ref 176), (1, .int (nI (b)))]) rfl rfl ?_
          refine w_p (pc1 := 54) rfl rfl ?_
          refine w_p (pc1 := 55) (st1 := .int (-1) :: _) rfl rfl ?_
          refine w_t (a := 64) (b := 58) (cb_ne_t (by exact nK_m1 (by omega))) rfl rfl ?_
          refine w_p (pc1 := 65) rfl rfl ?_
          refine w_p (pc1 := 67) rfl rfl ?_
          refine w_p (pc1 := 68) rfl rfl ?_
          refine w_p (pc1 := 69) (st1 := .int 1 :: _) rfl rfl ?_
          refine w_p (pc1 := 70) rfl rfl ?_
          refine w_p (pc1 := 71) (st1 := .int 1 :: _) rfl rfl ?_
          refine w_f (a := 79) (b := 74) (cb_ne_f (by exact btI_t (by omega) ((hx q hq6).trans ha))) rfl rfl ?_
          refine w_p (pc1 := 75) rfl rfl ?_
          refine w_p (pc1 := 76) (st1 := .int 3 :: _) rfl rfl ?_
          refine w_je (pc1 := 79) (vs := [.ref 176, .int 3]) (rest := []) (st1 := []) (m_200 (d := _) (sl := 0) (fun z => absurd M.2.1.2.1 z)) rfl rfl rfl (fun _ _ => rfl) rfl (by exact cl_v my_200 rfl rfl rfl (Nat.le_of_ble_eq_true rfl) rfl (MH_obj rfl rfl) rfl (by decide) rfl rfl) (by rfl) (Nat.le_of_ble_eq_true rfl) (Nat.le_of_ble_eq_true rfl) rfl (by rfl) ?_
          refine w_p (pc1 := 80) rfl rfl ?_
          refine w_p (pc1 := 81) (st1 := .int 1 :: _) rfl rfl ?_
          refine w_p (pc1 := 83) rfl rfl ?_
          refine w_p (pc1 := 84) rfl rfl ?_
          refine w_ior (pc1 := 85) (z := x ||| (1 <<< (nI q &&& 31))) rfl (rfl) rfl ?_
          refine w_p (pc1 := 86) (al1 := [(2, .int (x ||| (1 <<< (nI q &&& 31)))), (4, .int (nI (q))), (3, .int 1), (0, .ref 176), (1, .int (nI (b)))]) rfl rfl ?_
          refine w_p (pc1 := 87) rfl rfl ?_
          refine w_ji (pc1 := 90) (vs := [.ref 176]) (rest := []) (nFS (d := _) F) rfl rfl rfl (fun _ _ => rfl) rfl (by exact cl_v my_195 rfl rfl rfl (Nat.le_of_ble_eq_true rfl) rfl (MH_obj rfl rfl) rfl (by decide) rfl rfl) (by rfl) (Nat.le_of_ble_eq_true rfl) (Nat.le_of_ble_eq_true rfl) rfl (fun v h1 d1 hq => ?_) (fun _ _ _ e => e.elim)
          rcases hq with ⟨hv, ⟨C1, ⟨F1, f1⟩, hh⟩, hn⟩
          · subst hv; subst hh; subst hn
            refine Wd_al (al := [(4, .int (nI (q))), (3, .int 1), (2, .int (x ||| (1 <<< (nI q &&& 31)))), (0, .ref 176), (1, .int (nI (b)))]) (sba_p [1, 2, 0, 3, 4] rfl rfl) ?_
            exact e242G F1 hU hp4 ((f1.1 76 40 (by omega)).trans ((flt_1 (by omega)).trans I.1)) ((f1.1 76 41 (by omega)).trans ((flt_1 (by omega)).trans I.2.1)) (by omega) (fun C2 F2 => Or.inr ⟨rfl, ⟨_, ⟨3, i, flS_n (pb_l hy) hk1, F2⟩, rfl⟩, rfl⟩)
        · have ha : cs.contains q = false := by cases h : cs.contains q with
            | true => exact absurd h ha
            | false => rfl
          have hy : rCol (tkP B n) sc b cs i = .inr (q, i + 1) := rCol_s hk hf hq3 ha
          rw [pb_r hy]
          have h40 : ∀ C1, frT C C1 → ∀ C2, frT C1 C2 → C2.1 76 40 = nI p := fun C1 f1 C2 f2 => (f2.1 76 40 (by omega)).trans ((f1.1 76 40 (by omega)).trans I.1)
          have h41 : ∀ C1, frT C C1 → ∀ C2, frT C1 C2 → C2.1 76 41 = nI (sIt cs ss).length := fun C1 f1 C2 f2 => (f2.1 76 41 (by omega)).trans ((f1.1 76 41 (by omega)).trans I.2.1)
          refine w_p (pc1 := 23) rfl rfl ?_
          refine w_f (a := 149) (b := 26) rfl rfl rfl ?_
          refine w_p (pc1 := 27) rfl rfl ?_
          refine w_m0 (pc1 := 30) (st1 := .int 0 :: _) rfl rfl (h_gIe (j := 8) rfl rfl rfl rfl rfl (M.2.1.2.1)) rfl ?_
          refine w_f (a := 149) (b := 33) rfl rfl rfl ?_
          refine w_p (pc1 := 34) rfl rfl ?_
          refine w_je (pc1 := 37) (vs := [.ref 176]) (rest := []) (st1 := [.int 1]) (m_207y (d := _) M hk) rfl rfl rfl (fun _ _ => rfl) rfl (by exact cl_v my_207 rfl rfl rfl (Nat.le_of_ble_eq_true rfl) rfl (MH_obj rfl rfl) rfl (by decide) rfl rfl) (by rfl) (Nat.le_of_ble_eq_true rfl) (Nat.le_of_ble_eq_true rfl) rfl (by rfl) ?_
          refine w_t (a := 41) (b := 40) rfl rfl rfl ?_
          refine w_p (pc1 := 42) rfl rfl ?_
          refine w_p (pc1 := 43) rfl rfl ?_
          refine w_p (pc1 := 44) rfl rfl ?_
          refine w_m0 (pc1 := 47) (st1 := .long (vl B n i) :: _) rfl rfl (h_gJe (j := 7) rfl rfl rfl rfl rfl (hv)) rfl ?_
          refine w_je (pc1 := 50) (vs := [.ref 176, .int (nI (b)), .long (vl B n i)]) (rest := []) (st1 := [.int (nI (q))]) (m_213r (d := _) (sl := 0) hB hq1) rfl rfl rfl (fun _ _ => rfl) rfl (by exact cl_v my_213 rfl rfl rfl (Nat.le_of_ble_eq_true rfl) rfl (MH_obj rfl rfl) rfl (by decide) rfl rfl) (by rfl) (Nat.le_of_ble_eq_true rfl) (Nat.le_of_ble_eq_true rfl) rfl (by rfl) ?_
          refine w_p (pc1 := 52) (al1 := [(4, .int (nI (q))), (3, .int 1), (2, .int (x)), (0, .ref 176), (1, .int (nI (b)))]) rfl rfl ?_
          refine w_p (pc1 := 54) rfl rfl ?_
          refine w_p (pc1 := 55) (st1 := .int (-1) :: _) rfl rfl ?_
          refine w_t (a := 64) (b := 58) (cb_ne_t (by exact nK_m1 (by omega))) rfl rfl ?_
          refine w_p (pc1 := 65) rfl rfl ?_
          refine w_p (pc1 := 67) rfl rfl ?_
          refine w_p (pc1 := 68) rfl rfl ?_
          refine w_p (pc1 := 69) (st1 := .int 1 :: _) rfl rfl ?_
          refine w_p (pc1 := 70) rfl rfl ?_
          refine w_p (pc1 := 71) (st1 := .int 1 :: _) rfl rfl ?_
          refine w_t (a := 79) (b := 74) (cb_ne_t (by show x >>> (nI q &&& 31) &&& 1 ≠ 1; rw [btI_f (by omega) ((hx q hq6).trans ha)]; decide)) rfl rfl ?_
          refine w_p (pc1 := 80) rfl rfl ?_
          refine w_p (pc1 := 81) (st1 := .int 1 :: _) rfl rfl ?_
          refine w_p (pc1 := 83) rfl rfl ?_
          refine w_p (pc1 := 84) rfl rfl ?_
          refine w_ior (pc1 := 85) (z := x ||| (1 <<< (nI q &&& 31))) rfl (rfl) rfl ?_
          refine w_p (pc1 := 86) (al1 := [(2, .int (x ||| (1 <<< (nI q &&& 31)))), (4, .int (nI (q))), (3, .int 1), (0, .ref 176), (1, .int (nI (b)))]) rfl rfl ?_
          refine w_p (pc1 := 87) rfl rfl ?_
          refine w_ji (pc1 := 90) (vs := [.ref 176]) (rest := []) (nS (d := _) M (by rw [hk]; decide)) rfl rfl rfl (fun _ _ => rfl) rfl (by exact cl_v my_195 rfl rfl rfl (Nat.le_of_ble_eq_true rfl) rfl (MH_obj rfl rfl) rfl (by decide) rfl rfl) (by rfl) (Nat.le_of_ble_eq_true rfl) (Nat.le_of_ble_eq_true rfl) rfl (fun v h1 d1 hq => ?_) (fun _ _ _ e => e.elim)
          rcases hq with ⟨hv, ⟨C1, ⟨g1, M1, f1⟩, hh⟩, hn⟩ | ⟨hv, ⟨C1, ⟨g1, F1, f1⟩, hh⟩, hn⟩
          · subst hv; subst hh; subst hn
            refine w_p (pc1 := 91) rfl rfl ?_
            refine w_p (pc1 := 93) (st1 := .int 61 :: _) rfl rfl ?_
            refine w_ji (pc1 := 96) (vs := [.ref 176, .int 61]) (rest := []) (m_209 (k := 50) (d := _) (by decide) (by decide) rfl M1) rfl rfl rfl (fun _ _ => rfl) rfl (by exact cl_v my_209 rfl rfl rfl (Nat.le_of_ble_eq_true rfl) rfl (MH_obj rfl rfl) rfl (by decide) rfl rfl) (by rfl) (Nat.le_of_ble_eq_true rfl) (Nat.le_of_ble_eq_true rfl) rfl (fun v h1 d1 hq => ?_) (fun _ _ _ e => e.elim)
            rcases hq with ⟨hv, ⟨C2, ⟨g2, g3, M2, f2⟩, hh⟩, hn⟩ | ⟨hv, ⟨C2, ⟨c2, j2, g2, F2, f2⟩, hh⟩, hn⟩
            · subst hv; subst hh; subst hn
              refine w_p (pc1 := 97) rfl rfl ?_
              refine w_m0 (pc1 := 100) rfl rfl (h_gI (j := 8) rfl rfl rfl rfl rfl) rfl ?_
              refine w_f (a := 107) (b := 103) (cb_ne_f (by exact M2.2.1.2.1)) rfl rfl ?_
              refine w_p (pc1 := 104) rfl rfl ?_
              refine w_ji (pc1 := 107) (vs := [.ref 176]) (rest := []) (sumS (d := _) M2 (h40 _ f1 _ f2) hp4 (h41 _ f1 _ f2) (by omega) hU (eM_R (RXM_T (RXM_T R f1) f2))) rfl rfl rfl (fun _ _ => rfl) rfl (by exact cl_v my_228 rfl rfl rfl (Nat.le_of_ble_eq_true rfl) rfl (MH_obj rfl rfl) rfl (by decide) rfl rfl) (by rfl) (Nat.le_of_ble_eq_true rfl) (Nat.le_of_ble_eq_true rfl) rfl (fun v h1 d1 hq => ?_) (fun _ _ _ e => e.elim)
              rcases hq with ⟨hv, ⟨C3, ⟨l, i3, nl3, g4, g5, M3, g6, g7, g8, f3⟩, hh⟩, hn⟩ | ⟨hv, ⟨C3, ⟨c3, j3, g4, F3, g6, u3, g7, g8⟩, hh⟩, hn⟩
              · subst hv; subst hh; subst hn
                refine w_p (pc1 := 108) rfl rfl ?_
                refine w_p (pc1 := 110) (st1 := .int 15 :: _) rfl rfl ?_
                refine w_p (pc1 := 112) rfl rfl ?_
                refine w_p (pc1 := 113) (st1 := .long ((nI (q)).toInt64) :: _) rfl rfl ?_
                refine w_je (pc1 := 116) (vs := [.ref 176, .int 15, .long ((nI (q)).toInt64)]) (rest := []) (st1 := []) (m_230 (d := _) (sl := 0) g6.1 hp4 g6.2 (by have := MS_6 M3; omega)) rfl rfl rfl (fun _ _ => rfl) rfl (by exact cl_v my_230 rfl rfl rfl (Nat.le_of_ble_eq_true rfl) rfl (MH_obj rfl rfl) rfl (by decide) rfl rfl) (by rfl) (Nat.le_of_ble_eq_true rfl) (Nat.le_of_ble_eq_true rfl) rfl (by rfl) ?_
                refine Wd_al (al := [(4, .int (nI (q))), (3, .int 1), (2, .int (x ||| (1 <<< (nI q &&& 31)))), (0, .ref 176), (1, .int (nI (b)))]) (sba_p [1, 2, 0, 3, 4] rfl rfl) ?_
                have hi3 := MS_6 M3
                have f5 : fH_y p C (stC C3 p ((sIt cs ss).length + l.length) 15 (nI q).toInt64) := fHy_t (fHy_T f1) (fHy_t (fHy_T f2) (fHy_t (fHy_G f3) (fHy_s (by omega))))
                have e5 : xpP (tkP B n) 50 (i + 1) = .inr (i + 1 + 1) := if_pos g2
                rw [pb_r e5, pb_r g4]
                refine Wd_q (e242S (f := f) (lp_242 hU hp4 hb6 f) (MS_st M3 hU (by omega)) (RXM_H R f5) (ITM_s (ITM_T (ITM_T I f1 (Nat.le_succ _)) f2 (Nat.le_succ _)) hl hs g6 g7 g8 f3 hi3) (by rw [List.length_append, List.length_append, hl]; rfl) (fun s hs2 => ?_) (bsM_i hx hq6) (fun h48 => set_z hz hy e5 g4 h48)) (PCH_f f5) (fun _ _ _ e => e)
                rcases List.mem_append.mp hs2 with h | h
                · exact hs s h
                · rw [List.mem_singleton.mp h]
                  intro e
                  cases e
              · subst hv; subst hh; subst hn
                refine Wd_al (al := [(4, .int (nI (q))), (3, .int 1), (2, .int (x ||| (1 <<< (nI q &&& 31)))), (0, .ref 176), (1, .int (nI (b)))]) (sba_p [1, 2, 0, 3, 4] rfl rfl) ?_
                refine e242F F3 hU hp4 g6 g7 g8 (fun C4 F4 => Or.inr ⟨rfl, ⟨_, ⟨c3, j3, ?_, F4⟩, rfl⟩, rfl⟩)
                rw [pb_r (show xpP (tkP B n) 50 (i + 1) = .inr (i + 1 + 1) from if_pos g2)]
                exact flS_c g4 (fun a ha hk => Or.inr ⟨_, if_neg (by show ¬ kd B n a.2.1 = 48; rw [hk]; decide), rfl⟩)
            · subst hv; subst hh; subst hn
              refine w_p (pc1 := 97) rfl rfl ?_
              refine w_m0 (pc1 := 100) rfl rfl (h_gI (j := 8) rfl rfl rfl rfl rfl) rfl ?_
              refine w_t (a := 107) (b := 103) (cb_ne_t (by exact FS_0 F2)) rfl rfl ?_
              refine Wd_al (al := [(4, .int (nI (q))), (3, .int 1), (2, .int (x ||| (1 <<< (nI q &&& 31)))), (0, .ref 176), (1, .int (nI (b)))]) (sba_p [1, 2, 0, 3, 4] rfl rfl) ?_
              refine e242F F2 hU hp4 (h40 _ f1 _ f2) (h41 _ f1 _ f2) (by omega) (fun C3 F3 => Or.inr ⟨rfl, ⟨_, ⟨c2, j2, flS_b g2 (fun a ha hk => ?_), F3⟩, rfl⟩, rfl⟩)
              obtain ⟨hk4, rfl⟩ := xpP_s ha
              obtain ⟨m, hm1, hm2, hm3⟩ := M1.2.2.2.2.1.2
              exact bdS_b (bdS_f rfl hm1 hm2 (st1 hm1 hm3 hk4 (by decide) (by decide)) hk (Or.inl rfl))
          · subst hv; subst hh; subst hn
            refine Wd_al (al := [(4, .int (nI (q))), (3, .int 1), (2, .int (x ||| (1 <<< (nI q &&& 31)))), (0, .ref 176), (1, .int (nI (b)))]) (sba_p [1, 2, 0, 3, 4] rfl rfl) ?_
            exact e242G F1 hU hp4 ((f1.1 76 40 (by omega)).trans I.1) ((f1.1 76 41 (by omega)).trans I.2.1) (by omega) (fun C2 F2 => Or.inr ⟨rfl, ⟨_, ⟨1, i + 1, flS_1 (bdS_b (bdS_x g1 (by decide))) g1, F2⟩, rfl⟩, rfl⟩)
    · have F := FS_new (c := 2) M (by decide)
      have hy : rCol (tkP B n) sc b cs i = .inl (2, i) := rCol_2 hk
      refine w_p (pc1 := 23) rfl rfl ?_
      refine w_f (a := 149) (b := 26) rfl rfl rfl ?_
      refine w_p (pc1 := 27) rfl rfl ?_
      refine w_m0 (pc1 := 30) (st1 := .int 0 :: _) rfl rfl (h_gIe (j := 8) rfl rfl rfl rfl rfl (M.2.1.2.1)) rfl ?_
      refine w_f (a := 149) (b := 33) rfl rfl rfl ?_
      refine w_p (pc1 := 34) rfl rfl ?_
      refine w_je (pc1 := 37) (vs := [.ref 176]) (rest := []) (st1 := [.int 0]) (m_207n (d := _) M hk) rfl rfl rfl (fun _ _ => rfl) rfl (by exact cl_v my_207 rfl rfl rfl (Nat.le_of_ble_eq_true rfl) rfl (MH_obj rfl rfl) rfl (by decide) rfl rfl) (by rfl) (Nat.le_of_ble_eq_true rfl) (Nat.le_of_ble_eq_true rfl) rfl (by rfl) ?_
      refine w_f (a := 41) (b := 40) rfl rfl rfl ?_
      refine w_r rfl rfl rfl (fun _ _ => rfl) rfl ?_
      exact Or.inr ⟨rfl, ⟨_, ⟨2, i, flS_n (pb_l hy) hk1, F⟩, rfl⟩, rfl⟩
set_option maxRecDepth 100000 in
theorem m_242 (hU : U p) (hp4 : p ≤ 40) (M : MS B n U V C0 C i nl) (R : RXM C sc (some b) tg) (h40 : C.1 76 40 = nI p) (h41 : C.1 76 41 = 0) : Wd L xs (d + 8) y_242 (0, [(0, .ref 176), (1, .int (nI b))], [], MH C t, 0) (PCH B n U V C0 C t p (fun a : List Nat × List (Option (List op_T)) => sIt a.1 a.2) (rUpd (tkP B n) sc tg 1 b i nl)) nX := by
  have hB := R.2.2.2.1 b rfl
  have hb6 := hB.1
  have hr : rUpd (tkP B n) sc tg 1 b i nl = pb (xpP (tkP B n) 34 i) (fun j => rSet (tkP B n) sc (fE (tkP B n) sc (some b) tg) b 601 [] j nl) := if_pos rfl
  rw [hr]
  refine w_p (pc1 := 1) rfl rfl ?_
  refine w_m0 (pc1 := 4) (st1 := .long 7562612 :: _) rfl rfl rfl rfl ?_
  refine w_ji (pc1 := 7) (vs := [.ref 176, .long 7562612]) (rest := []) (m_219 (k := 34) (d := _) (by decide) (by decide) rfl M) rfl rfl rfl (fun _ _ => rfl) rfl (by exact cl_v my_219 rfl rfl rfl (Nat.le_of_ble_eq_true rfl) rfl (MH_obj rfl rfl) rfl (by decide) rfl rfl) (by rfl) (Nat.le_of_ble_eq_true rfl) (Nat.le_of_ble_eq_true rfl) rfl (fun v h1 d1 hq => ?_) (fun _ _ _ e => e.elim)
  rcases hq with ⟨hv, ⟨C2, ⟨g1, g2, M2, f2⟩, hh⟩, hn⟩ | ⟨hv, ⟨C2, ⟨c2, j2, g2, F2, f2⟩, hh⟩, hn⟩
  · subst hv; subst hh; subst hn
    refine w_p (pc1 := 8) (st1 := .int 0 :: _) rfl rfl ?_
    refine w_p (pc1 := 9) (al1 := [(2, .int 0), (0, .ref 176), (1, .int (nI (b)))]) rfl rfl ?_
    refine w_p (pc1 := 10) rfl rfl ?_
    refine w_m0 (pc1 := 13) rfl rfl (h_gI (j := 8) rfl rfl rfl rfl rfl) rfl ?_
    refine w_f (a := 20) (b := 16) (cb_ne_f (by exact M2.2.1.2.1)) rfl rfl ?_
    refine w_p (pc1 := 17) (st1 := .int 1 :: _) rfl rfl ?_
    refine w_p (pc1 := 21) rfl rfl ?_
    refine w_p (pc1 := 22) (al1 := [(3, .int 1), (2, .int 0), (0, .ref 176), (1, .int (nI (b)))]) rfl rfl ?_
    obtain ⟨m, hm1, hm2, hm3⟩ := M2.2.2.2.2.1.2
    have hz : nzp (rSet (tkP B n) sc (fE (tkP B n) sc (some b) tg) b 601 [] (i + 1) nl) := rSet_z rfl hm1 hm2 601 [] (i + 1) nl hm3 (by omega)
    rw [pb_r (show xpP (tkP B n) 34 i = .inr (i + 1) from if_pos g1), ← set_0 (r := rSet (tkP B n) sc (fE (tkP B n) sc (some b) tg) b 601 [] (i + 1) nl)]
    exact Wd_q (lp_242 hU hp4 hb6 601 (i + 1) nl C2 [] [] 0 M2 (RXM_T R f2) ⟨(f2.1 76 40 (by omega)).trans h40, (f2.1 76 41 (by omega)).trans h41, fun j x h => (by cases h), Nat.zero_le _⟩ rfl (fun s h => by cases h) bsM_0 hz) (PCH_f (fHy_T f2)) (fun _ _ _ e => e)
  · subst hv; subst hh; subst hn
    refine w_p (pc1 := 8) (st1 := .int 0 :: _) rfl rfl ?_
    refine w_p (pc1 := 9) (al1 := [(2, .int 0), (0, .ref 176), (1, .int (nI (b)))]) rfl rfl ?_
    refine w_p (pc1 := 10) rfl rfl ?_
    refine w_m0 (pc1 := 13) rfl rfl (h_gI (j := 8) rfl rfl rfl rfl rfl) rfl ?_
    refine w_t (a := 20) (b := 16) (cb_ne_t (by exact FS_0 F2)) rfl rfl ?_
    refine w_p (pc1 := 21) (st1 := .int 0 :: _) rfl rfl ?_
    refine w_p (pc1 := 22) (al1 := [(3, .int 0), (2, .int 0), (0, .ref 176), (1, .int (nI (b)))]) rfl rfl ?_
    refine e242X F2 (Or.inr ⟨rfl, ⟨_, ⟨c2, j2, flS_b g2 (fun a ha hk => ?_), F2⟩, rfl⟩, rfl⟩)
    obtain ⟨hk4, rfl⟩ := xpP_s ha
    obtain ⟨m, hm1, hm2, hm3⟩ := M.2.2.2.2.1.2
    have hm4 : i + 1 ≤ m := st1 hm1 hm3 hk4 (by decide) (by decide)
    exact bd_set hk (rSet_z rfl hm1 hm2 601 [] (i + 1) nl hm4 (by omega))
end MSV
