
/-! THE OTHER SIDE READS STATEMENTS, 4: a new row's parts, the loop -/
section MSQ
variable {L : Nat} {xs : Nat → Int32} {B : Nat → Nat} {n : Nat} {C C' C0 C1 : co_T} {t : ab_H} {d i i0 i1 j b e p k w q : Nat} {U V : Nat → Prop} {c : Int32} {sc : sc_T} {row : Option Nat} {tg : Option (Nat × Nat)} {nl : Option Nat} {E : fe_T} {tr : Nat → Option tr_T}
set_option maxRecDepth 100000 in
theorem ITM_p {pre : List (Option (List op_T))} {l : List op_T} {C1 : co_T} (I : ITM C p (pIt 0 pre) i) (h3 : C1.1 76 40 = nI p ∧ C1.1 76 41 = nI ((pIt 0 pre).length + l.length)) (h4 : foM C1 p (pIt 0 pre).length l) (h5 : (pIt 0 pre).length + l.length ≤ i1 + 1) (h6 : frG p (pIt 0 pre).length 0 C C1) (h61 : i1 ≤ 600) : ITM (stC C1 p ((pIt 0 pre).length + l.length) 13 (nI pre.length).toInt64) p (pIt 0 (pre ++ [some l])) (i1 + 1) := by
  have e : pIt 0 (pre ++ [some l]) = pIt 0 pre ++ l.map Sum.inl ++ [.inr (13, pre.length)] := by
    rw [pIt_a, Nat.zero_add, List.append_assoc]
    rfl
  have el : (pIt 0 pre ++ l.map Sum.inl).length = (pIt 0 pre).length + l.length := by rw [List.length_append, List.length_map]
  have g := itM_st (k := pre.length) (w2 := 13) (itM_ap (itM_G I.2.2.1 h6) (itM_fo h4)) (by rw [el]; omega)
  rw [el] at g
  refine ⟨?_, ?_, ?_, ?_⟩
  · unfold stC
    rw [sI_1, if_neg (by omega), sJ_1, sI_1, if_neg (by omega)]
    exact h3.1
  · unfold stC
    rw [sI_1, if_pos ⟨rfl, rfl⟩, e, List.length_append, el]
    rfl
  · rw [e]
    exact g
  · rw [e, List.length_append, el, List.length_singleton]
    omega
set_option maxRecDepth 100000 in
theorem ITM_d {pre : List (Option (List op_T))} (I : ITM C p (pIt 0 pre) i) (h61 : i ≤ 600) : ITM (stC C p (pIt 0 pre).length 14 (nI pre.length).toInt64) p (pIt 0 (pre ++ [none])) (i + 1) := by
  have e : pIt 0 (pre ++ [none]) = pIt 0 pre ++ [.inr (14, pre.length)] := by
    rw [pIt_a, Nat.zero_add]
    rfl
  have h5 := I.2.2.2
  have g := itM_st (k := pre.length) (w2 := 14) I.2.2.1 (by omega)
  refine ⟨?_, ?_, ?_, ?_⟩
  · unfold stC
    rw [sI_1, if_neg (by omega), sJ_1, sI_1, if_neg (by omega)]
    exact I.1
  · unfold stC
    rw [sI_1, if_pos ⟨rfl, rfl⟩, e, List.length_append]
    rfl
  · rw [e]
    exact g
  · rw [e, List.length_append, List.length_singleton]
    omega
set_option maxRecDepth 100000 in
theorem lp_241 (hU : U p) (hp4 : p ≤ 40) (hb6 : b < 6) : ∀ (f i : Nat) (nl : Option Nat) (C : co_T) (pre : List (Option (List op_T))), MS B n U V C0 C i nl → RXM C sc none tg → ITM C p (pIt 0 pre) i → TBM C sc b → nzp (rPar (fE (tkP B n) sc none tg) f i nl) → Wd L xs (d + 8) y_241 (26, [(3, .int 1), (2, .int (nI pre.length)), (0, .ref 176), (1, .int (nI b))], [], MH C t, 0) (PCH B n U V C0 C t p (fun a => pIt 0 (aSs a)) (pb (rPar (fE (tkP B n) sc none tg) f i nl) (pEnd (tkP B n) b (sc.2.1 b) pre))) nX
  | 0, i, nl, C, pre, M, R, I, hB, hz => absurd rfl (hz 0)
  | f + 1, i, nl, C, pre, M, R, I, hB, hz => by
    have hi6 := MS_6 M
    have hl5 := I.2.2.2
    have hu6 : (pIt 0 pre).length < 619 := by omega
    rw [par_u]
    by_cases hk : kd B n i = 14
    · have hx : rPt (fE (tkP B n) sc none tg) i nl = .inr (none, i + 1, nl) := if_pos hk
      rw [pb_r hx]
      have M1 := MS_st (w2 := 14) (v2 := (nI pre.length).toInt64) M hU (Nat.lt_of_lt_of_le hu6 (by decide))
      have I1 := ITM_d I hi6
      have f1 : fH_y p C (stC C p (pIt 0 pre).length 14 (nI pre.length).toInt64) := fHy_s (by omega)
      have R1 := RXM_H R f1
      refine w_p (pc1 := 27) rfl rfl ?_
      refine w_f (a := 110) (b := 30) rfl rfl rfl ?_
      refine w_p (pc1 := 31) rfl rfl ?_
      refine w_m0 (pc1 := 34) (st1 := .int 0 :: _) rfl rfl (h_gIe (j := 8) rfl rfl rfl rfl rfl (M.2.1.2.1)) rfl ?_
      refine w_f (a := 110) (b := 37) rfl rfl rfl ?_
      refine w_p (pc1 := 38) rfl rfl ?_
      refine w_m0 (pc1 := 41) (st1 := .long 28258988067220596 :: _) rfl rfl rfl rfl ?_
      refine w_je (pc1 := 44) (vs := [.ref 176, .long 28258988067220596]) (rest := []) (st1 := [.int 1]) (m_205t (d := _) (sl := 0) ((wd_k (k := 14) M.2.1 (by decide) (by decide)).trans (decide_eq_true hk))) rfl rfl rfl (fun _ _ => rfl) rfl (by exact cl_v my_205 rfl rfl rfl (Nat.le_of_ble_eq_true rfl) rfl (MH_obj rfl rfl) rfl (by decide) rfl rfl) (by rfl) (Nat.le_of_ble_eq_true rfl) (Nat.le_of_ble_eq_true rfl) rfl (by rfl) ?_
      refine w_f (a := 62) (b := 47) rfl rfl rfl ?_
      refine w_p (pc1 := 48) rfl rfl ?_
      refine w_p (pc1 := 50) (st1 := .int 14 :: _) rfl rfl ?_
      refine w_p (pc1 := 51) rfl rfl ?_
      refine w_p (pc1 := 52) (st1 := .long ((nI (pre.length)).toInt64) :: _) rfl rfl ?_
      refine w_je (pc1 := 55) (vs := [.ref 176, .int 14, .long ((nI (pre.length)).toInt64)]) (rest := []) (st1 := []) (m_230 (d := _) (sl := 0) I.1 hp4 I.2.1 hu6) rfl rfl rfl (fun _ _ => rfl) rfl (by exact cl_v my_230 rfl rfl rfl (Nat.le_of_ble_eq_true rfl) rfl (MH_obj rfl rfl) rfl (by decide) rfl rfl) (by rfl) (Nat.le_of_ble_eq_true rfl) (Nat.le_of_ble_eq_true rfl) rfl (by rfl) ?_
      refine w_p (pc1 := 56) rfl rfl ?_
      refine w_ji (pc1 := 59) (vs := [.ref 176]) (rest := []) (nS (d := _) M1 (by rw [hk]; decide)) rfl rfl rfl (fun _ _ => rfl) rfl (by exact cl_v my_195 rfl rfl rfl (Nat.le_of_ble_eq_true rfl) rfl (MH_obj rfl rfl) rfl (by decide) rfl rfl) (by rfl) (Nat.le_of_ble_eq_true rfl) (Nat.le_of_ble_eq_true rfl) rfl (fun v h1 d1 hq => ?_) (fun _ _ _ e => e.elim)
      rcases hq with ⟨hv, ⟨C2, h1, hh⟩, hn⟩ | ⟨hv, ⟨C2, h1, hh⟩, hn⟩
      · subst hv; subst hh; subst hn
        refine w_p (pc1 := 74) rfl rfl ?_
        first
        | exact Wd_q (e241S (f := f) (fun i nl C pre M R I hB hz => lp_241 hU hp4 hb6 f i nl C pre M R I hB hz) h1.2.1 (RXM_T R1 h1.2.2) (ITM_T I1 h1.2.2 (Nat.le_succ _)) (TBM_o hB (fun j => (h1.2.2.1 80 j (by omega)).trans (f1.1 80 j (by omega) (by omega) (by omega))) (fun j => (h1.2.2.2.1 81 j (by omega)).trans (f1.2.1 81 j (by omega) (by omega) (by omega)))) (fun h48 => par_z hz hx h48)) (PCH_f (fHy_t f1 (fHy_T h1.2.2))) (fun _ _ _ e => e)
        | (refine e241G h1.2.1 (Or.inr ⟨rfl, ⟨_, ⟨1, i + 1, ?_, h1.2.1⟩, rfl⟩, rfl⟩); show flS B n _ (if kd B n (i + 1) = 48 then _ else _) 1 (i + 1); rw [if_neg (by rw [h1.1]; decide)]; exact flS_1 (bd_pE h1.1) h1.1)
      · subst hv; subst hh; subst hn
        refine w_p (pc1 := 74) rfl rfl ?_
        first
        | exact Wd_q (e241S (f := f) (fun i nl C pre M R I hB hz => lp_241 hU hp4 hb6 f i nl C pre M R I hB hz) h1.2.1 (RXM_T R1 h1.2.2) (ITM_T I1 h1.2.2 (Nat.le_succ _)) (TBM_o hB (fun j => (h1.2.2.1 80 j (by omega)).trans (f1.1 80 j (by omega) (by omega) (by omega))) (fun j => (h1.2.2.2.1 81 j (by omega)).trans (f1.2.1 81 j (by omega) (by omega) (by omega)))) (fun h48 => par_z hz hx h48)) (PCH_f (fHy_t f1 (fHy_T h1.2.2))) (fun _ _ _ e => e)
        | (refine e241G h1.2.1 (Or.inr ⟨rfl, ⟨_, ⟨1, i + 1, ?_, h1.2.1⟩, rfl⟩, rfl⟩); show flS B n _ (if kd B n (i + 1) = 48 then _ else _) 1 (i + 1); rw [if_neg (by rw [h1.1]; decide)]; exact flS_1 (bd_pE h1.1) h1.1)
    · have hx : rPt (fE (tkP B n) sc none tg) i nl = pb (rFm (fE (tkP B n) sc none tg) 3 i nl) (fun x => .inr (some x.1, x.2)) := if_neg hk
      rw [hx, pb_pb]
      refine w_p (pc1 := 27) rfl rfl ?_
      refine w_f (a := 110) (b := 30) rfl rfl rfl ?_
      refine w_p (pc1 := 31) rfl rfl ?_
      refine w_m0 (pc1 := 34) (st1 := .int 0 :: _) rfl rfl (h_gIe (j := 8) rfl rfl rfl rfl rfl (M.2.1.2.1)) rfl ?_
      refine w_f (a := 110) (b := 37) rfl rfl rfl ?_
      refine w_p (pc1 := 38) rfl rfl ?_
      refine w_m0 (pc1 := 41) (st1 := .long 28258988067220596 :: _) rfl rfl rfl rfl ?_
      refine w_je (pc1 := 44) (vs := [.ref 176, .long 28258988067220596]) (rest := []) (st1 := [.int 0]) (m_205f (d := _) (sl := 0) ((wd_k (k := 14) M.2.1 (by decide) (by decide)).trans (decide_eq_false hk))) rfl rfl rfl (fun _ _ => rfl) rfl (by exact cl_v my_205 rfl rfl rfl (Nat.le_of_ble_eq_true rfl) rfl (MH_obj rfl rfl) rfl (by decide) rfl rfl) (by rfl) (Nat.le_of_ble_eq_true rfl) (Nat.le_of_ble_eq_true rfl) rfl (by rfl) ?_
      refine w_t (a := 62) (b := 47) rfl rfl rfl ?_
      refine w_p (pc1 := 63) rfl rfl ?_
      refine w_ji (pc1 := 66) (vs := [.ref 176]) (rest := []) (sumS (d := _) M I.1 hp4 I.2.1 I.2.2.2 hU (eM_R R)) rfl rfl rfl (fun _ _ => rfl) rfl (by exact cl_v my_228 rfl rfl rfl (Nat.le_of_ble_eq_true rfl) rfl (MH_obj rfl rfl) rfl (by decide) rfl rfl) (by rfl) (Nat.le_of_ble_eq_true rfl) (Nat.le_of_ble_eq_true rfl) rfl (fun v h1 d1 hq => ?_) (fun _ _ _ e => e.elim)
      rcases hq with ⟨hv, ⟨C1, ⟨l, i2, nl2, h1, h2, M2, h3, h4, h5, h6⟩, hh⟩, hn⟩ | ⟨hv, ⟨C1, ⟨c2, j2, h1, F2, h3, u2, h4, h5⟩, hh⟩, hn⟩
      · subst hv; subst hh; subst hn
        refine w_p (pc1 := 67) rfl rfl ?_
        refine w_p (pc1 := 69) (st1 := .int 13 :: _) rfl rfl ?_
        refine w_p (pc1 := 70) rfl rfl ?_
        refine w_p (pc1 := 71) (st1 := .long ((nI (pre.length)).toInt64) :: _) rfl rfl ?_
        refine w_je (pc1 := 74) (vs := [.ref 176, .int 13, .long ((nI (pre.length)).toInt64)]) (rest := []) (st1 := []) (m_230 (d := _) (sl := 0) h3.1 hp4 h3.2 (by have := MS_6 M2; omega)) rfl rfl rfl (fun _ _ => rfl) rfl (by exact cl_v my_230 rfl rfl rfl (Nat.le_of_ble_eq_true rfl) rfl (MH_obj rfl rfl) rfl (by decide) rfl rfl) (by rfl) (Nat.le_of_ble_eq_true rfl) (Nat.le_of_ble_eq_true rfl) rfl (by rfl) ?_
        have hi2 := MS_6 M2
        rw [pb_r h1]
        have f1 : fH_y p C (stC C1 p ((pIt 0 pre).length + l.length) 13 (nI pre.length).toInt64) := fHy_t (fHy_G h6) (fHy_s (by omega))
        exact Wd_q (e241S (f := f) (fun i nl C pre M R I hB hz => lp_241 hU hp4 hb6 f i nl C pre M R I hB hz) (MS_st M2 hU (by omega)) (RXM_H R f1) (ITM_p I h3 h4 h5 h6 hi2) (TBM_o hB (fun j => f1.1 80 j (by omega) (by omega) (by omega)) (fun j => f1.2.1 81 j (by omega) (by omega) (by omega))) (fun h48 => par_z (x := (some l, i2, nl2)) hz (by rw [hx, pb_r h1]) h48)) (PCH_f f1) (fun _ _ _ e => e)
      · subst hv; subst hh; subst hn
        refine w_p (pc1 := 67) rfl rfl ?_
        refine w_p (pc1 := 69) (st1 := .int 13 :: _) rfl rfl ?_
        refine w_p (pc1 := 70) rfl rfl ?_
        refine w_p (pc1 := 71) (st1 := .long ((nI (pre.length)).toInt64) :: _) rfl rfl ?_
        refine w_je (pc1 := 74) (vs := [.ref 176, .int 13, .long ((nI (pre.length)).toInt64)]) (rest := []) (st1 := []) (m_230 (d := _) (sl := 0) h3 hp4 h4 (by omega)) rfl rfl rfl (fun _ _ => rfl) rfl (by exact cl_v my_230 rfl rfl rfl (Nat.le_of_ble_eq_true rfl) rfl (MH_obj rfl rfl) rfl (by decide) rfl rfl) (by rfl) (Nat.le_of_ble_eq_true rfl) (Nat.le_of_ble_eq_true rfl) rfl (by rfl) ?_
        have F3 := FS_st (w2 := 13) (v2 := (nI pre.length).toInt64) F2 hU (show u2 < 620 by omega)
        refine e241G F3 (Or.inr ⟨rfl, ⟨_, ⟨c2, j2, flS_b h1 (fun a _ ha => ?_), F3⟩, rfl⟩, rfl⟩)
        show bdS (if kd B n a.2.1 = 48 then _ else _) a.2.1
        rw [if_neg (by rw [ha]; decide)]
        exact bd_pE ha
set_option maxRecDepth 100000 in
theorem rIns_e {K : tv2} : rIns K sc tg b i nl = pb (xpP K 44 i) (fun j => pb (rPar (fE K sc none tg) 601 j nl) (pEnd K b (sc.2.1 b) [])) := rfl
set_option maxRecDepth 100000 in
theorem m_241 (hU : U p) (hp4 : p ≤ 40) (M : MS B n U V C0 C i nl) (R : RXM C sc row tg) (h40 : C.1 76 40 = nI p) (h41 : C.1 76 41 = 0) (hB : TBM C sc b) : Wd L xs (d + 8) y_241 (0, [(0, .ref 176), (1, .int (nI b))], [], MH C t, 0) (PCH B n U V C0 (sI C 76 46 (-1)) t p (fun a => pIt 0 (aSs a)) (rIns (tkP B n) sc tg b i nl)) nX := by
  have hb6 := hB.1
  have M1 := MS_I (v := -1) M (sx_76 (j := 46) (by omega)) (by omega)
  have R1 : RXM (sI C 76 46 (-1)) sc none tg := ⟨rfl, R.2.1, R.2.2.1, fun b e => (by cases e), fun p e => ⟨TBM_o (R.2.2.2.2 p e).1 (fun _ => rfl) (fun _ => rfl), (R.2.2.2.2 p e).2⟩⟩
  have I1 : ∀ C2 i, frT (sI C 76 46 (-1)) C2 → ITM C2 p (pIt 0 []) i := fun C2 i f => ⟨(f.1 76 40 (by omega)).trans h40, (f.1 76 41 (by omega)).trans h41, fun j x h => (by cases h), Nat.zero_le _⟩
  rw [rIns_e]


  refine w_p (pc1 := 1) rfl rfl ?_
  refine w_p (pc1 := 2) (st1 := .int (-1) :: _) rfl rfl ?_
  refine w_m0 (pc1 := 5) rfl rfl (h_pI (j := 46) rfl rfl rfl rfl rfl rfl rfl ⟨rfl, rfl⟩ rfl) rfl ?_
  refine w_p (pc1 := 6) rfl rfl ?_
  refine w_p (pc1 := 8) (st1 := .int 40 :: _) rfl rfl ?_
  refine w_ji (pc1 := 11) (vs := [.ref 176, .int 40]) (rest := []) (m_209 (k := 44) (d := _) (by decide) (by decide) rfl M1) rfl rfl rfl (fun _ _ => rfl) rfl (by exact cl_v my_209 rfl rfl rfl (Nat.le_of_ble_eq_true rfl) rfl (MH_obj rfl rfl) rfl (by decide) rfl rfl) (by rfl) (Nat.le_of_ble_eq_true rfl) (Nat.le_of_ble_eq_true rfl) rfl (fun v h1 d1 hq => ?_) (fun _ _ _ e => e.elim)
  rcases hq with ⟨hv, ⟨C2, ⟨g1, g2, M2, g4⟩, hh⟩, hn⟩ | ⟨hv, ⟨C2, ⟨c2, j2, h1, h2, h3⟩, hh⟩, hn⟩
  · subst hv; subst hh; subst hn
    refine w_p (pc1 := 12) (st1 := .int 0 :: _) rfl rfl ?_
    refine w_p (pc1 := 13) (al1 := [(2, .int 0), (0, .ref 176), (1, .int (nI (b)))]) rfl rfl ?_
    refine w_p (pc1 := 14) rfl rfl ?_
    refine w_m0 (pc1 := 17) rfl rfl (h_gI (j := 8) rfl rfl rfl rfl rfl) rfl ?_
    refine w_f (a := 24) (b := 20) (cb_ne_f (by exact M2.2.1.2.1)) rfl rfl ?_
    refine w_p (pc1 := 21) (st1 := .int 1 :: _) rfl rfl ?_
    refine w_p (pc1 := 25) rfl rfl ?_
    refine w_p (pc1 := 26) (al1 := [(3, .int 1), (2, .int 0), (0, .ref 176), (1, .int (nI (b)))]) rfl rfl ?_
    obtain ⟨m, hm1, hm2, hm3⟩ := M2.2.2.2.2.1.2
    have hz : nzp (rPar (fE (tkP B n) sc none tg) 601 (i + 1) nl) := rPar_z rfl hm1 hm2 601 (i + 1) nl hm3 (by omega)
    rw [pb_r (show xpP (tkP B n) 44 i = .inr (i + 1) from if_pos g1)]
    exact Wd_q (lp_241 hU hp4 hb6 601 (i + 1) nl C2 [] M2 (RXM_T R1 g4) (I1 _ _ g4) (TBM_o hB (fun j => g4.1 80 j (by omega)) (fun j => g4.2.1 81 j (by omega))) hz) (PCH_f (fHy_T g4)) (fun _ _ _ e => e)
  · subst hv; subst hh; subst hn
    refine w_p (pc1 := 12) (st1 := .int 0 :: _) rfl rfl ?_
    refine w_p (pc1 := 13) (al1 := [(2, .int 0), (0, .ref 176), (1, .int (nI (b)))]) rfl rfl ?_
    refine w_p (pc1 := 14) rfl rfl ?_
    refine w_m0 (pc1 := 17) rfl rfl (h_gI (j := 8) rfl rfl rfl rfl rfl) rfl ?_
    refine w_t (a := 24) (b := 20) (cb_ne_t (by exact FS_0 h2)) rfl rfl ?_
    refine w_p (pc1 := 25) (st1 := .int 0 :: _) rfl rfl ?_
    refine w_p (pc1 := 26) (al1 := [(3, .int 0), (2, .int 0), (0, .ref 176), (1, .int (nI (b)))]) rfl rfl ?_
    refine e241F h2 (Or.inr ⟨rfl, ⟨_, ⟨c2, j2, flS_b h1 (fun a ha hk => ?_), h2⟩, rfl⟩, rfl⟩)
    obtain ⟨hk4, rfl⟩ := xpP_s ha
    obtain ⟨m, hm1, hm2, hm3⟩ := M.2.2.2.2.1.2
    have hm4 : i + 1 ≤ m := st1 hm1 hm3 hk4 (by decide) (by decide)
    exact bdS_b (bd_par hm1 hm2 hm4 hk (rPar_z rfl hm1 hm2 601 (i + 1) nl hm4 (by omega)))
end MSQ
