
/-! THE OTHER SIDE READS A TABLE, 10: CHECK, an item -/
section MTJ
variable {L : Nat} {xs : Nat → Int32} {B : Nat → Nat} {n : Nat} {C C' C0 C1 : co_T} {t : ab_H} {d i i0 i1 j b e p k w q : Nat} {U V : Nat → Prop} {c : Int32} {sc : sc_T} {row : Option Nat} {tg : Option (Nat × Nat)} {nl : Option Nat} {E : fe_T} {tr : Nat → Option tr_T}
variable {r e d1 u1 : Nat} {l : List Nat} {o : Option Nat} {Tb : tb_S} {u : ru_T} {P : Option Value → ab_H → Nat → Prop} {cs ts : List Nat} {x y : Int32}
set_option maxRecDepth 100000 in
theorem rFm_nd {md : Nat} {O : List op_T} {i' : Nat} {nl' : Option Nat} (h : rFm E md i nl = .inr (O, i', nl')) : (nl = none ∧ nl' = none) ∨ ∃ a b, nl = some a ∧ nl' = some b ∧ a = b + O.length := by
  unfold rFm at h
  cases hr : rd E 6000 md (i, [], 0, nl) with
  | inl q =>
    rw [hr] at h
    cases h
  | inr z =>
    rw [hr] at h
    injection h with h
    injection h with h1 h
    injection h with h2 h3
    rcases rd_nd _ _ _ _ hr with ⟨g1, g2⟩ | ⟨a, b, g1, g2, g3⟩
    · exact Or.inl ⟨g1, by rw [← h3]; exact g2⟩
    · refine Or.inr ⟨a, b, g1, by rw [← h3]; exact g2, ?_⟩
      have g3 : a + 0 = b + z.2.1.length := g3
      rw [h1] at g3
      omega
set_option maxRecDepth 100000 in
theorem nI_i {a c : Nat} (h : nI a = nI c) (ha : a < 2147483648) (hc : c < 2147483648) : a = c := by
  have := congrArg Int32.toNatClampNeg h
  rw [nK_nat ha, nK_nat hc] at this
  exact this
set_option maxRecDepth 100000 in
theorem m_211_12 (hU : ∀ r, r < 24 → Tb.2.2 r = none → U r) (M : MS B n U V C0 C i (some k)) (H : TMo C b Tb l none) (hk : kd B n i = 12) : Wd L xs (d + 10) y_211 (0, [(0, .ref 176)], [], MH C t, 0) (PTI B n U V C0 t b (rChk (tkP B n) Tb b i (some k))) nX := by
  have hk1 : kd B n i ≠ 1 := M.2.1.1
  have hb := H.1.2.1
  by_cases hr : ruN Tb.2.2 = -1
  · have hx : rChk (tkP B n) Tb b i (some k) = .inl (6, i) := if_pos hr
    have F := FS_new (c := 6) M (by decide)
    refine w_p (pc1 := 1) rfl rfl ?_
    refine w_m0 (pc1 := 4) rfl rfl (h_gI (j := 4) rfl rfl rfl rfl rfl) rfl ?_
    refine w_p (pc1 := 5) (st1 := .int 1 :: _) rfl rfl ?_
    refine w_t (a := 13) (b := 8) (cb_ne_t (by exact fun e => absurd ((nm_k M.2.1).1.mp e) (by rw [hk]; decide))) rfl rfl ?_
    refine w_p (pc1 := 14) rfl rfl ?_
    refine w_m0 (pc1 := 17) (st1 := .long 31650994523828857 :: _) rfl rfl rfl rfl ?_
    refine w_je (pc1 := 20) (vs := [.ref 176, .long 31650994523828857]) (rest := []) (st1 := [.int 0]) (m_205f (d := _) (sl := 0) ((wd_k (k := 31) M.2.1 (by decide) (by decide)).trans (decide_eq_false (by rw [hk]; decide)))) rfl rfl rfl (fun _ _ => rfl) rfl (by exact cl_v my_205 rfl rfl rfl (Nat.le_of_ble_eq_true rfl) rfl (MH_obj rfl rfl) rfl (by decide) rfl rfl) (by rfl) (Nat.le_of_ble_eq_true rfl) (Nat.le_of_ble_eq_true rfl) rfl (by rfl) ?_
    refine w_f (a := 33) (b := 23) rfl rfl rfl ?_
    refine w_p (pc1 := 24) rfl rfl ?_
    refine w_m0 (pc1 := 27) (st1 := .long 129117075895653 :: _) rfl rfl rfl rfl ?_
    refine w_je (pc1 := 30) (vs := [.ref 176, .long 129117075895653]) (rest := []) (st1 := [.int 0]) (m_205f (d := _) (sl := 0) ((wd_k (k := 40) M.2.1 (by decide) (by decide)).trans (decide_eq_false (by rw [hk]; decide)))) rfl rfl rfl (fun _ _ => rfl) rfl (by exact cl_v my_205 rfl rfl rfl (Nat.le_of_ble_eq_true rfl) rfl (MH_obj rfl rfl) rfl (by decide) rfl rfl) (by rfl) (Nat.le_of_ble_eq_true rfl) (Nat.le_of_ble_eq_true rfl) rfl (by rfl) ?_
    refine w_t (a := 37) (b := 33) rfl rfl rfl ?_
    refine w_p (pc1 := 38) (st1 := .int 0 :: _) rfl rfl ?_
    refine w_p (pc1 := 39) (al1 := [(1, .int 0), (0, .ref 176)]) rfl rfl ?_
    refine w_p (pc1 := 40) rfl rfl ?_
    refine w_f (a := 69) (b := 43) rfl rfl rfl ?_
    refine w_p (pc1 := 44) rfl rfl ?_
    refine w_m0 (pc1 := 47) (st1 := .long 426953237355 :: _) rfl rfl rfl rfl ?_
    refine w_je (pc1 := 50) (vs := [.ref 176, .long 426953237355]) (rest := []) (st1 := [.int 1]) (m_205t (d := _) (sl := 0) ((wd_k (k := 12) M.2.1 (by decide) (by decide)).trans (decide_eq_true hk))) rfl rfl rfl (fun _ _ => rfl) rfl (by exact cl_v my_205 rfl rfl rfl (Nat.le_of_ble_eq_true rfl) rfl (MH_obj rfl rfl) rfl (by decide) rfl rfl) (by rfl) (Nat.le_of_ble_eq_true rfl) (Nat.le_of_ble_eq_true rfl) rfl (by rfl) ?_
    refine w_t (a := 69) (b := 53) rfl rfl rfl ?_
    refine w_p (pc1 := 70) rfl rfl ?_
    refine w_p (pc1 := 71) rfl rfl ?_
    refine w_m0 (pc1 := 74) (st1 := .long 31650994523828857 :: _) rfl rfl rfl rfl ?_
    refine w_je (pc1 := 77) (vs := [.ref 176, .long 31650994523828857]) (rest := [.ref 176]) (st1 := [.int 0, .ref 176]) (m_205f (d := _) (sl := 0) ((wd_k (k := 31) M.2.1 (by decide) (by decide)).trans (decide_eq_false (by rw [hk]; decide)))) rfl rfl rfl (fun _ _ => rfl) rfl (by exact cl_v my_205 rfl rfl rfl (Nat.le_of_ble_eq_true rfl) rfl (MH_obj rfl rfl) rfl (by decide) rfl rfl) (by rfl) (Nat.le_of_ble_eq_true rfl) (Nat.le_of_ble_eq_true rfl) rfl (by rfl) ?_
    refine w_t (a := 84) (b := 80) rfl rfl rfl ?_
    refine w_p (pc1 := 85) rfl rfl ?_
    refine w_m0 (pc1 := 88) (st1 := .long 129117075895653 :: _) rfl rfl rfl rfl ?_
    refine w_je (pc1 := 91) (vs := [.ref 176, .long 129117075895653]) (rest := [.ref 176]) (st1 := [.int 0, .ref 176]) (m_205f (d := _) (sl := 0) ((wd_k (k := 40) M.2.1 (by decide) (by decide)).trans (decide_eq_false (by rw [hk]; decide)))) rfl rfl rfl (fun _ _ => rfl) rfl (by exact cl_v my_205 rfl rfl rfl (Nat.le_of_ble_eq_true rfl) rfl (MH_obj rfl rfl) rfl (by decide) rfl rfl) (by rfl) (Nat.le_of_ble_eq_true rfl) (Nat.le_of_ble_eq_true rfl) rfl (by rfl) ?_
    refine w_t (a := 98) (b := 94) rfl rfl rfl ?_
    refine w_p (pc1 := 99) rfl rfl ?_
    refine w_m0 (pc1 := 102) (st1 := .long 426953237355 :: _) rfl rfl rfl rfl ?_
    refine w_je (pc1 := 105) (vs := [.ref 176, .long 426953237355]) (rest := [.ref 176]) (st1 := [.int 1, .ref 176]) (m_205t (d := _) (sl := 0) ((wd_k (k := 12) M.2.1 (by decide) (by decide)).trans (decide_eq_true hk))) rfl rfl rfl (fun _ _ => rfl) rfl (by exact cl_v my_205 rfl rfl rfl (Nat.le_of_ble_eq_true rfl) rfl (MH_obj rfl rfl) rfl (by decide) rfl rfl) (by rfl) (Nat.le_of_ble_eq_true rfl) (Nat.le_of_ble_eq_true rfl) rfl (by rfl) ?_
    refine w_f (a := 112) (b := 108) rfl rfl rfl ?_
    refine w_p (pc1 := 109) (st1 := .int 3 :: _) rfl rfl ?_
    refine w_p (pc1 := 113) rfl rfl ?_
    refine w_je (pc1 := 116) (vs := [.ref 176, .int 3]) (rest := []) (st1 := [.int 0]) (m_214f (d := _) M H hr) rfl rfl rfl (fun _ _ => rfl) rfl (by exact cl_v my_214 rfl rfl rfl (Nat.le_of_ble_eq_true rfl) rfl (MH_obj rfl rfl) rfl (by decide) rfl rfl) (by rfl) (Nat.le_of_ble_eq_true rfl) (Nat.le_of_ble_eq_true rfl) rfl (by rfl) ?_
    refine w_p (pc1 := 117) (al1 := [(2, .int 0), (1, .int 0), (0, .ref 176)]) rfl rfl ?_
    refine w_p (pc1 := 118) rfl rfl ?_
    refine w_m0 (pc1 := 121) (st1 := .int 6 :: _) rfl rfl (h_gIe (j := 8) rfl rfl rfl rfl rfl (F.1.2.1)) rfl ?_
    refine w_f (a := 125) (b := 124) rfl rfl rfl ?_
    refine w_r rfl rfl rfl (fun _ _ => rfl) rfl ?_
    exact Or.inr ⟨rfl, ⟨_, ⟨6, i, flS_n hx hk1, F⟩, rfl⟩, rfl⟩
  · obtain ⟨r, hr1, hr2, hr3⟩ := ruN_s hr
    have hUr := hU r hr2 hr3
    have hx : rChk (tkP B n) Tb b i (some k) = pb (rFm (fE (tkP B n) Tb.1 (some b) none) 8 (i + 1) (some k)) (fun x => .inr (addR Tb (3, b, [], none, [], (rDef (tkP B n) x.2.1).1, 0, 0, some x.1), (rDef (tkP B n) x.2.1).2, x.2.2)) := if_neg hr
    rw [hx]
    have k3 : ∀ C2 : co_T, MS B n U V C0 C2 (i + 1) (some k) → MS B n U V C0 (sI (sI (sI (sI C2 76 40 (nI r)) 76 41 0) 76 46 (nI b)) 76 47 (-1)) (i + 1) (some k) := fun C2 M2 => MS_I (MS_I (MS_I (MS_I M2 (sx_76 (by omega)) (by omega)) (sx_76 (by omega)) (by omega)) (sx_76 (by omega)) (by omega)) (sx_76 (by omega)) (by omega)
    have f3 : ∀ C2 : co_T, fP r C2 (sI (sI (sI (sI C2 76 40 (nI r)) 76 41 0) 76 46 (nI b)) 76 47 (-1)) := fun C2 => fP_t (fP_t (fP_t (fP_F (by omega)) (fP_F (by omega))) (fP_F (by omega))) (fP_F (by omega))
    have r3 : ∀ C2 : co_T, TMo C2 b Tb (l ++ [r]) (some r) → RXM (sI (sI (sI (sI C2 76 40 (nI r)) 76 41 0) 76 46 (nI b)) 76 47 (-1)) Tb.1 (some b) none := by
      intro C2 H2
      have H3 := TMo_P H2 (Or.inl rfl) (f3 C2)
      refine ⟨?_, ?_, H3.2.2.2.2.2.2, fun q e => ?_, fun p e => (by cases e)⟩
      · rw [sI_1, if_neg (by omega), sI_1, if_pos ⟨rfl, rfl⟩]
        rfl
      · rw [sI_1, if_pos ⟨rfl, rfl⟩]
        rfl
      · cases e
        exact TMo_B H3
    refine w_p (pc1 := 1) rfl rfl ?_
    refine w_m0 (pc1 := 4) rfl rfl (h_gI (j := 4) rfl rfl rfl rfl rfl) rfl ?_
    refine w_p (pc1 := 5) (st1 := .int 1 :: _) rfl rfl ?_
    refine w_t (a := 13) (b := 8) (cb_ne_t (by exact fun e => absurd ((nm_k M.2.1).1.mp e) (by rw [hk]; decide))) rfl rfl ?_
    refine w_p (pc1 := 14) rfl rfl ?_
    refine w_m0 (pc1 := 17) (st1 := .long 31650994523828857 :: _) rfl rfl rfl rfl ?_
    refine w_je (pc1 := 20) (vs := [.ref 176, .long 31650994523828857]) (rest := []) (st1 := [.int 0]) (m_205f (d := _) (sl := 0) ((wd_k (k := 31) M.2.1 (by decide) (by decide)).trans (decide_eq_false (by rw [hk]; decide)))) rfl rfl rfl (fun _ _ => rfl) rfl (by exact cl_v my_205 rfl rfl rfl (Nat.le_of_ble_eq_true rfl) rfl (MH_obj rfl rfl) rfl (by decide) rfl rfl) (by rfl) (Nat.le_of_ble_eq_true rfl) (Nat.le_of_ble_eq_true rfl) rfl (by rfl) ?_
    refine w_f (a := 33) (b := 23) rfl rfl rfl ?_
    refine w_p (pc1 := 24) rfl rfl ?_
    refine w_m0 (pc1 := 27) (st1 := .long 129117075895653 :: _) rfl rfl rfl rfl ?_
    refine w_je (pc1 := 30) (vs := [.ref 176, .long 129117075895653]) (rest := []) (st1 := [.int 0]) (m_205f (d := _) (sl := 0) ((wd_k (k := 40) M.2.1 (by decide) (by decide)).trans (decide_eq_false (by rw [hk]; decide)))) rfl rfl rfl (fun _ _ => rfl) rfl (by exact cl_v my_205 rfl rfl rfl (Nat.le_of_ble_eq_true rfl) rfl (MH_obj rfl rfl) rfl (by decide) rfl rfl) (by rfl) (Nat.le_of_ble_eq_true rfl) (Nat.le_of_ble_eq_true rfl) rfl (by rfl) ?_
    refine w_t (a := 37) (b := 33) rfl rfl rfl ?_
    refine w_p (pc1 := 38) (st1 := .int 0 :: _) rfl rfl ?_
    refine w_p (pc1 := 39) (al1 := [(1, .int 0), (0, .ref 176)]) rfl rfl ?_
    refine w_p (pc1 := 40) rfl rfl ?_
    refine w_f (a := 69) (b := 43) rfl rfl rfl ?_
    refine w_p (pc1 := 44) rfl rfl ?_
    refine w_m0 (pc1 := 47) (st1 := .long 426953237355 :: _) rfl rfl rfl rfl ?_
    refine w_je (pc1 := 50) (vs := [.ref 176, .long 426953237355]) (rest := []) (st1 := [.int 1]) (m_205t (d := _) (sl := 0) ((wd_k (k := 12) M.2.1 (by decide) (by decide)).trans (decide_eq_true hk))) rfl rfl rfl (fun _ _ => rfl) rfl (by exact cl_v my_205 rfl rfl rfl (Nat.le_of_ble_eq_true rfl) rfl (MH_obj rfl rfl) rfl (by decide) rfl rfl) (by rfl) (Nat.le_of_ble_eq_true rfl) (Nat.le_of_ble_eq_true rfl) rfl (by rfl) ?_
    refine w_t (a := 69) (b := 53) rfl rfl rfl ?_
    refine w_p (pc1 := 70) rfl rfl ?_
    refine w_p (pc1 := 71) rfl rfl ?_
    refine w_m0 (pc1 := 74) (st1 := .long 31650994523828857 :: _) rfl rfl rfl rfl ?_
    refine w_je (pc1 := 77) (vs := [.ref 176, .long 31650994523828857]) (rest := [.ref 176]) (st1 := [.int 0, .ref 176]) (m_205f (d := _) (sl := 0) ((wd_k (k := 31) M.2.1 (by decide) (by decide)).trans (decide_eq_false (by rw [hk]; decide)))) rfl rfl rfl (fun _ _ => rfl) rfl (by exact cl_v my_205 rfl rfl rfl (Nat.le_of_ble_eq_true rfl) rfl (MH_obj rfl rfl) rfl (by decide) rfl rfl) (by rfl) (Nat.le_of_ble_eq_true rfl) (Nat.le_of_ble_eq_true rfl) rfl (by rfl) ?_
    refine w_t (a := 84) (b := 80) rfl rfl rfl ?_
    refine w_p (pc1 := 85) rfl rfl ?_
    refine w_m0 (pc1 := 88) (st1 := .long 129117075895653 :: _) rfl rfl rfl rfl ?_
    refine w_je (pc1 := 91) (vs := [.ref 176, .long 129117075895653]) (rest := [.ref 176]) (st1 := [.int 0, .ref 176]) (m_205f (d := _) (sl := 0) ((wd_k (k := 40) M.2.1 (by decide) (by decide)).trans (decide_eq_false (by rw [hk]; decide)))) rfl rfl rfl (fun _ _ => rfl) rfl (by exact cl_v my_205 rfl rfl rfl (Nat.le_of_ble_eq_true rfl) rfl (MH_obj rfl rfl) rfl (by decide) rfl rfl) (by rfl) (Nat.le_of_ble_eq_true rfl) (Nat.le_of_ble_eq_true rfl) rfl (by rfl) ?_
    refine w_t (a := 98) (b := 94) rfl rfl rfl ?_
    refine w_p (pc1 := 99) rfl rfl ?_
    refine w_m0 (pc1 := 102) (st1 := .long 426953237355 :: _) rfl rfl rfl rfl ?_
    refine w_je (pc1 := 105) (vs := [.ref 176, .long 426953237355]) (rest := [.ref 176]) (st1 := [.int 1, .ref 176]) (m_205t (d := _) (sl := 0) ((wd_k (k := 12) M.2.1 (by decide) (by decide)).trans (decide_eq_true hk))) rfl rfl rfl (fun _ _ => rfl) rfl (by exact cl_v my_205 rfl rfl rfl (Nat.le_of_ble_eq_true rfl) rfl (MH_obj rfl rfl) rfl (by decide) rfl rfl) (by rfl) (Nat.le_of_ble_eq_true rfl) (Nat.le_of_ble_eq_true rfl) rfl (by rfl) ?_
    refine w_f (a := 112) (b := 108) rfl rfl rfl ?_
    refine w_p (pc1 := 109) (st1 := .int 3 :: _) rfl rfl ?_
    refine w_p (pc1 := 113) rfl rfl ?_
    refine w_ji (pc1 := 116) (vs := [.ref 176, .int 3]) (rest := []) (m_214 (d := _) (z := 3) hUr M H hr1 hr2 hr3) rfl rfl rfl (fun _ _ => rfl) rfl (by exact cl_v my_214 rfl rfl rfl (Nat.le_of_ble_eq_true rfl) rfl (MH_obj rfl rfl) rfl (by decide) rfl rfl) (by rfl) (Nat.le_of_ble_eq_true rfl) (Nat.le_of_ble_eq_true rfl) rfl (fun v h1 d1 hq => ?_) (fun _ _ _ e => e.elim)
    rcases hq with ⟨hv, ⟨C1, ⟨M1, H1, R0, e40⟩, hh⟩, hn⟩
    · subst hv; subst hh; subst hn
      refine w_p (pc1 := 117) (al1 := [(2, .int (nI (r))), (1, .int 0), (0, .ref 176)]) rfl rfl ?_
      refine w_p (pc1 := 118) rfl rfl ?_
      refine w_m0 (pc1 := 121) (st1 := .int 0 :: _) rfl rfl (h_gIe (j := 8) rfl rfl rfl rfl rfl (M1.2.1.2.1)) rfl ?_
      refine w_t (a := 125) (b := 124) rfl rfl rfl ?_
      refine w_p (pc1 := 126) rfl rfl ?_
      refine w_ji (pc1 := 129) (vs := [.ref 176]) (rest := []) (nS (d := _) M1 (by rw [hk]; decide)) rfl rfl rfl (fun _ _ => rfl) rfl (by exact cl_v my_195 rfl rfl rfl (Nat.le_of_ble_eq_true rfl) rfl (MH_obj rfl rfl) rfl (by decide) rfl rfl) (by rfl) (Nat.le_of_ble_eq_true rfl) (Nat.le_of_ble_eq_true rfl) rfl (fun v h1 d1 hq => ?_) (fun _ _ _ e => e.elim)
      rcases hq with ⟨hv, ⟨C2, ⟨g2, M2, f2⟩, hh⟩, hn⟩ | ⟨hv, ⟨C2, ⟨g2, F2, f2⟩, hh⟩, hn⟩
      · subst hv; subst hh; subst hn
        refine w_p (pc1 := 130) rfl rfl ?_
        refine w_m0 (pc1 := 133) (st1 := .int 0 :: _) rfl rfl (h_gIe (j := 8) rfl rfl rfl rfl rfl (M2.2.1.2.1)) rfl ?_
        refine w_t (a := 137) (b := 136) rfl rfl rfl ?_
        obtain ⟨v44, a0, c0, v43, v42, vs⟩ : lfM C2 (some k) := M2.2.2.1
        refine w_p (pc1 := 138) rfl rfl ?_
        refine w_t (a := 177) (b := 141) rfl rfl rfl ?_
        refine w_p (pc1 := 178) rfl rfl ?_
        refine w_m0 (pc1 := 181) rfl rfl (h_gC rfl rfl rfl rfl) rfl ?_
        refine w_p (pc1 := 182) rfl rfl ?_
        refine w_m0 (pc1 := 183) (st1 := .int 3 :: _) rfl rfl (n_ile (e := r) rfl rfl rfl (by omega) ((f2.1 84 r (by omega)).trans R0.1)) rfl ?_
        refine w_p (pc1 := 184) (st1 := .int 4 :: _) rfl rfl ?_
        refine w_t (a := 195) (b := 187) rfl rfl rfl ?_
        refine w_p (pc1 := 196) rfl rfl ?_
        refine w_p (pc1 := 197) rfl rfl ?_
        refine w_m0 (pc1 := 200) rfl rfl (h_pI (j := 40) rfl rfl rfl rfl rfl rfl rfl ⟨rfl, rfl⟩ rfl) rfl ?_
        refine w_p (pc1 := 201) rfl rfl ?_
        refine w_p (pc1 := 202) (st1 := .int 0 :: _) rfl rfl ?_
        refine w_m0 (pc1 := 205) rfl rfl (h_pI (j := 41) rfl rfl rfl rfl rfl rfl rfl ⟨rfl, rfl⟩ rfl) rfl ?_
        refine w_p (pc1 := 206) rfl rfl ?_
        refine w_m0 (pc1 := 209) (st1 := .int (nI (c0)) :: _) rfl rfl (h_gIe (j := 42) rfl rfl rfl rfl rfl (by rw [sI_1, if_neg (by omega), sI_1, if_neg (by omega)]; exact v42)) rfl ?_
        refine w_p (pc1 := 210) (al1 := [(3, .int (nI (c0))), (2, .int (nI (r))), (1, .int 0), (0, .ref 176)]) rfl rfl ?_
        refine w_p (pc1 := 211) rfl rfl ?_
        refine w_p (pc1 := 212) rfl rfl ?_
        refine w_m0 (pc1 := 215) (st1 := .int (nI (b)) :: _) rfl rfl (h_gIe (j := 57) rfl rfl rfl rfl rfl (by rw [sI_1, if_neg (by omega), sI_1, if_neg (by omega)]; exact (TMo_T H1 f2).1.1)) rfl ?_
        refine w_m0 (pc1 := 218) rfl rfl (h_pI (j := 46) rfl rfl rfl rfl rfl rfl rfl ⟨rfl, rfl⟩ rfl) rfl ?_
        refine w_p (pc1 := 219) rfl rfl ?_
        refine w_p (pc1 := 220) (st1 := .int (-1) :: _) rfl rfl ?_
        refine w_m0 (pc1 := 223) rfl rfl (h_pI (j := 47) rfl rfl rfl rfl rfl rfl rfl ⟨rfl, rfl⟩ rfl) rfl ?_
        refine w_p (pc1 := 224) rfl rfl ?_
        refine w_ji (pc1 := 227) (vs := [.ref 176]) (rest := []) (testS (d := _) (p := r) (b := 0) (E := fE (tkP B n) Tb.1 (some b) none) (k3 _ M2) (by rw [sI_1, if_neg (by omega), sI_1, if_neg (by omega), sI_1, if_neg (by omega), sI_1, if_pos ⟨rfl, rfl⟩]) (by omega) (by rw [sI_1, if_neg (by omega), sI_1, if_neg (by omega), sI_1, if_pos ⟨rfl, rfl⟩]; rfl) (by omega) hUr (eM_R (r3 _ (TMo_T H1 f2)))) rfl rfl rfl (fun _ _ => rfl) rfl (by exact cl_v my_223 rfl rfl rfl (Nat.le_of_ble_eq_true rfl) rfl (MH_obj rfl rfl) rfl (by decide) rfl rfl) (by rfl) (Nat.le_of_ble_eq_true rfl) (Nat.le_of_ble_eq_true rfl) rfl (fun v h1 d1 hq => ?_) (fun _ _ _ e => e.elim)
        rcases hq with ⟨hv, ⟨C4, ⟨l4, i4, nl4, g4, g4b, M4, g5, g6, g7, f4⟩, hh⟩, hn⟩ | ⟨hv, ⟨C4, ⟨c4, j4, g4, F4, g5, u4, g6, g7⟩, hh⟩, hn⟩
        · subst hv; subst hh; subst hn
          obtain ⟨k4, hk4, hkk⟩ : ∃ k4, nl4 = some k4 ∧ k = k4 + l4.length := by
            rcases rFm_nd g4 with ⟨hno, _⟩ | ⟨ka, k4, hka, hk4, hkk⟩
            · cases hno
            · cases hka
              exact ⟨k4, hk4, hkk⟩
          subst hk4
          obtain ⟨w44, a4, c4, w43, w42, ws⟩ : lfM C4 (some k4) := M4.2.2.1
          have ha4 : a4 = a0 := nI_i (w43.symm.trans ((f4.1 76 43 (by omega) (by omega) (by omega)).trans (by rw [sI_1, if_neg (by omega), sI_1, if_neg (by omega), sI_1, if_neg (by omega), sI_1, if_neg (by omega)]; exact v43))) (by omega) (by omega)
          have hc4 : c4 - c0 = l4.length := by omega
          have q4 : ∀ q, 84 ≤ q → q ≤ 94 → C4.1 q r = C1.1 q r := fun q h1 h2 => by rw [f4.1 q r (by omega) (by omega) (by omega), sI_1, if_neg (by omega), sI_1, if_neg (by omega), sI_1, if_neg (by omega), sI_1, if_neg (by omega), f2.1 q r (by omega)]
          refine w_p (pc1 := 228) rfl rfl ?_
          refine w_m0 (pc1 := 231) rfl rfl (h_gC rfl rfl rfl rfl) rfl ?_
          refine w_p (pc1 := 232) rfl rfl ?_
          refine w_p (pc1 := 233) rfl rfl ?_
          refine w_m0 (pc1 := 236) (st1 := .int (nI (0 + l4.length)) :: _) rfl rfl (h_gIe (j := 41) rfl rfl rfl rfl rfl (g5.2)) rfl ?_
          refine w_m0 (pc1 := 237) rfl rfl (n_is (e := r) rfl rfl rfl (by omega)) rfl ?_
          refine w_p (pc1 := 238) rfl rfl ?_
          refine w_m0 (pc1 := 241) rfl rfl (h_gC rfl rfl rfl rfl) rfl ?_
          refine w_p (pc1 := 242) rfl rfl ?_
          refine w_p (pc1 := 243) rfl rfl ?_
          refine w_m0 (pc1 := 246) (st1 := .int (nI (c4)) :: _) rfl rfl (h_gIe (j := 42) rfl rfl rfl rfl rfl (by rw [sI_1, if_neg (by omega)]; exact w42)) rfl ?_
          refine w_p (pc1 := 247) rfl rfl ?_
          refine w_isub (pc1 := 248) (u := nI (c4)) (v := nI (c0)) (z := nI (c4 - c0)) rfl (nK_sub (by omega)) rfl ?_
          refine w_m0 (pc1 := 249) rfl rfl (n_is (e := r) rfl rfl rfl (by omega)) rfl ?_
          refine w_p (pc1 := 250) rfl rfl ?_
          refine w_p (pc1 := 251) rfl rfl ?_
          refine w_ji (pc1 := 254) (vs := [.ref 176, .int (nI (r))]) (rest := []) (m_217 (d := _) hUr hr2 (MS_I (v := nI (c4 - c0)) (MS_I (v := nI (0 + l4.length)) M4 (sx_h (V := V) (p := r) (k := 113) hUr (by omega)) (by omega)) (sx_r (V := V) (k := 94) hUr (by omega)) (by omega)) (by rw [sI_1, if_neg (by omega), sI_1, if_neg (by omega), q4 90 (by omega) (by omega)]; exact R0.2.2.2.2.1)) rfl rfl rfl (fun _ _ => rfl) rfl (by exact cl_v my_217 rfl rfl rfl (Nat.le_of_ble_eq_true rfl) rfl (MH_obj rfl rfl) rfl (by decide) rfl rfl) (by rfl) (Nat.le_of_ble_eq_true rfl) (Nat.le_of_ble_eq_true rfl) rfl (fun v h1 d1 hq => ?_) (fun _ _ _ e => e.elim)
          rcases hq with ⟨hv, ⟨C7, ⟨g7, M7, e90, e1, e2, e3⟩, hh⟩, hn⟩ | ⟨hv, ⟨C7, ⟨g7, F7⟩, hh⟩, hn⟩
          · subst hv; subst hh; subst hn
            refine w_r rfl rfl rfl (fun _ _ => rfl) rfl ?_
            have H4 := TMo_P (TMo_P (TMo_T H1 f2) (Or.inl rfl) (f3 C2)) (Or.inl rfl) (fP_G f4)
            have H7 := TMo_P (TMo_P (TMo_P H4 (Or.inl rfl) (fP_I (k := 113) (v := nI (0 + l4.length)) (by omega))) (Or.inl rfl) (fP_I (k := 94) (v := nI (c4 - c0)) (by omega))) (Or.inl rfl) (fP_L ⟨e1, e2, e3⟩)
            have q7 : ∀ q, 84 ≤ q → q ≤ 93 → q ≠ 90 → C7.1 q r = C1.1 q r := fun q h1 h2 h3 => by rw [e1 q r (by omega) (by omega), sI_1, if_neg (by omega), sI_1, if_neg (by omega), q4 q h1 (by omega)]
            have h6 := MS_6 M4
            refine Or.inl ⟨rfl, ⟨_, ⟨_, _, _, _, by rw [pb_r g4], g7, M7, TMo_c (u := (3, b, [], none, [], (rDef (tkP B n) i4).1, 0, 0, some l4)) H7 hr1 ⟨⟨(q7 84 (by omega) (by omega) (by omega)).trans R0.1, (q7 85 (by omega) (by omega) (by omega)).trans R0.2.1, (q7 86 (by omega) (by omega) (by omega)).trans R0.2.2.1, (q7 87 (by omega) (by omega) (by omega)).trans R0.2.2.2.1, fun j x h => (by cases h), fun j x h => (by cases h)⟩, ⟨e90, (q7 92 (by omega) (by omega) (by omega)).trans R0.2.2.2.2.2.1, (q7 93 (by omega) (by omega) (by omega)).trans R0.2.2.2.2.2.2.1⟩, fun O hO => ?_, fun h => (by cases h)⟩ ⟨Nat.zero_le _, Nat.zero_le _, fun O hO => ?_⟩⟩, rfl⟩, rfl⟩
            · cases hO
              refine ⟨?_, ?_, ?_⟩
              · rw [e1 113 r (by omega) (by omega), sI_1, if_neg (by omega), sI_1, if_pos ⟨rfl, rfl⟩, Nat.zero_add]
              · exact foM_o g6 (fun j => by rw [e1 106 j (by omega) (by omega), sI_1, if_neg (by omega), sI_1, if_neg (by omega)]) (fun j => e2 107 j (by omega))
              · rw [e1 94 r (by omega) (by omega), sI_1, if_pos ⟨rfl, rfl⟩, hc4]
            · cases hO
              omega
          · subst hv; subst hh; subst hn
            refine w_r rfl rfl rfl (fun _ _ => rfl) rfl ?_
            refine Or.inr ⟨rfl, ⟨_, ⟨1, _, ?_, F7⟩, rfl⟩, rfl⟩
            rw [pb_r g4]
            exact flS_e rfl rfl g7
        · subst hv; subst hh; subst hn
          skip
          refine w_p (pc1 := 228) rfl rfl ?_
          refine w_m0 (pc1 := 231) rfl rfl (h_gC rfl rfl rfl rfl) rfl ?_
          refine w_p (pc1 := 232) rfl rfl ?_
          refine w_p (pc1 := 233) rfl rfl ?_
          refine w_m0 (pc1 := 236) (st1 := .int (nI (u4)) :: _) rfl rfl (h_gIe (j := 41) rfl rfl rfl rfl rfl (g6)) rfl ?_
          refine w_m0 (pc1 := 237) rfl rfl (n_is (e := r) rfl rfl rfl (by omega)) rfl ?_
          refine w_p (pc1 := 238) rfl rfl ?_
          refine w_m0 (pc1 := 241) rfl rfl (h_gC rfl rfl rfl rfl) rfl ?_
          refine w_p (pc1 := 242) rfl rfl ?_
          refine w_p (pc1 := 243) rfl rfl ?_
          refine w_m0 (pc1 := 246) (st1 := .int (C4.1 76 42) :: _) rfl rfl (h_gIe (j := 42) rfl rfl rfl rfl rfl (rfl)) rfl ?_
          refine w_p (pc1 := 247) rfl rfl ?_
          refine w_p (pc1 := 248) rfl rfl ?_
          refine w_m0 (pc1 := 249) rfl rfl (n_is (e := r) rfl rfl rfl (by omega)) rfl ?_
          refine w_p (pc1 := 250) rfl rfl ?_
          refine w_p (pc1 := 251) rfl rfl ?_
          refine w_je (pc1 := 254) (vs := [.ref 176, .int (nI (r))]) (rest := []) (st1 := []) (m_217f (d := _) (FS_I (FS_I F4 (sx_h (V := V) (p := r) (k := 113) hUr (by omega)) (by omega)) (sx_r (V := V) (k := 94) hUr (by omega)) (by omega))) rfl rfl rfl (fun _ _ => rfl) rfl (by exact cl_v my_217 rfl rfl rfl (Nat.le_of_ble_eq_true rfl) rfl (MH_obj rfl rfl) rfl (by decide) rfl rfl) (by rfl) (Nat.le_of_ble_eq_true rfl) (Nat.le_of_ble_eq_true rfl) rfl (by rfl) ?_
          refine w_r rfl rfl rfl (fun _ _ => rfl) rfl ?_
          refine Or.inr ⟨rfl, ⟨_, ⟨c4, j4, flS_c g4 (fun q _ hk => Or.inr ⟨_, rfl, ?_⟩), FS_I (FS_I F4 (sx_h hUr (by omega)) (by omega)) (sx_r hUr (by omega)) (by omega)⟩, rfl⟩, rfl⟩
          show (rDef (tkP B n) q.2.1).2 = q.2.1
          rw [rDef_1 (i := q.2.1) hk]
      · subst hv; subst hh; subst hn
        refine w_p (pc1 := 130) rfl rfl ?_
        refine w_m0 (pc1 := 133) (st1 := .int 1 :: _) rfl rfl (h_gIe (j := 8) rfl rfl rfl rfl rfl (F2.1.2.1)) rfl ?_
        refine w_f (a := 137) (b := 136) rfl rfl rfl ?_
        refine w_r rfl rfl rfl (fun _ _ => rfl) rfl ?_
        obtain ⟨m, hm1, hm2, hm3⟩ := M.2.2.2.2.1.2
        exact Or.inr ⟨rfl, ⟨_, ⟨1, i + 1, flS_1 (bdS_b (bdS_f rfl hm1 hm2 (st1 hm1 hm3 hk (by decide) (by decide)) g2 (Or.inr rfl))) g2, F2⟩, rfl⟩, rfl⟩
set_option maxRecDepth 100000 in
theorem m_211 (hU : ∀ r, r < 24 → Tb.2.2 r = none → U r) (hV : V b) (M : MS B n U V C0 C i (some k)) (H : TMo C b Tb l none) (hok : ∀ i u, Tb.2.2 i = some u → okRu u) (hNm : ∀ q, q < 6 → q ≠ b → Tb.1.1 q ≠ Tb.1.1 b) : Wd L xs (d + 10) y_211 (0, [(0, .ref 176)], [], MH C t, 0) (PTI B n U V C0 t b (rItm (tkP B n) Tb b i (some k))) nX := by
  have hk1 : kd B n i ≠ 1 := M.2.1.1
  unfold rItm
  by_cases h3 : kd B n i = 3
  · rw [if_pos (show (tkP B n).1 i = 3 from h3)]
    refine w_p (pc1 := 1) rfl rfl ?_
    refine w_m0 (pc1 := 4) (st1 := .int 1 :: _) rfl rfl (h_gIe (j := 4) rfl rfl rfl rfl rfl (by rw [M.2.1.2.2.1, h3]; rfl)) rfl ?_
    refine w_p (pc1 := 5) (st1 := .int 1 :: _) rfl rfl ?_
    refine w_f (a := 13) (b := 8) rfl rfl rfl ?_
    refine w_p (pc1 := 9) rfl rfl ?_
    refine w_ji (pc1 := 12) (vs := [.ref 176]) (rest := []) (m_212 (d := _) hU hV M H h3) rfl rfl rfl (fun _ _ => rfl) rfl (by exact cl_v my_212 rfl rfl rfl (Nat.le_of_ble_eq_true rfl) rfl (MH_obj rfl rfl) rfl (by decide) rfl rfl) (by rfl) (Nat.le_of_ble_eq_true rfl) (Nat.le_of_ble_eq_true rfl) rfl (fun v h1 d1 hq => ?_) (fun _ _ _ e => e.elim)
    rcases hq with ⟨hv, ⟨C3, g3, hh⟩, hn⟩ | ⟨hv, ⟨C3, g3, hh⟩, hn⟩
    · subst hv; subst hh; subst hn
      refine w_r rfl rfl rfl (fun _ _ => rfl) rfl ?_
      exact Or.inl ⟨rfl, ⟨_, g3, rfl⟩, rfl⟩
    · subst hv; subst hh; subst hn
      refine w_r rfl rfl rfl (fun _ _ => rfl) rfl ?_
      exact Or.inr ⟨rfl, ⟨_, g3, rfl⟩, rfl⟩
  rw [if_neg (show ¬ (tkP B n).1 i = 3 from h3)]
  by_cases h31 : kd B n i = 31
  · rw [if_pos (show (tkP B n).1 i = 31 from h31)]
    exact Wd_up (by omega) (m_211_31 (d := d) hU M H h31)
  rw [if_neg (show ¬ (tkP B n).1 i = 31 from h31)]
  by_cases h40 : kd B n i = 40
  · rw [if_pos (show (tkP B n).1 i = 40 from h40)]
    exact Wd_up (by omega) (m_211_40 (d := d) hU M H h40)
  rw [if_neg (show ¬ (tkP B n).1 i = 40 from h40)]
  by_cases h12 : kd B n i = 12
  · rw [if_pos (show (tkP B n).1 i = 12 from h12)]
    exact m_211_12 hU M H h12
  rw [if_neg (show ¬ (tkP B n).1 i = 12 from h12)]
  by_cases h33 : kd B n i = 33
  · rw [if_pos (show (tkP B n).1 i = 33 from h33)]
    exact Wd_up (by omega) (m_211_33 (d := d) hU M H hok hNm h33)
  rw [if_neg (show ¬ (tkP B n).1 i = 33 from h33)]
  have F := FS_new (c := 2) M (by decide)
  refine w_p (pc1 := 1) rfl rfl ?_
  refine w_m0 (pc1 := 4) rfl rfl (h_gI (j := 4) rfl rfl rfl rfl rfl) rfl ?_
  refine w_p (pc1 := 5) (st1 := .int 1 :: _) rfl rfl ?_
  refine w_t (a := 13) (b := 8) (cb_ne_t (by exact fun e => h3 ((nm_k M.2.1).1.mp e))) rfl rfl ?_
  refine w_p (pc1 := 14) rfl rfl ?_
  refine w_m0 (pc1 := 17) (st1 := .long 31650994523828857 :: _) rfl rfl rfl rfl ?_
  refine w_je (pc1 := 20) (vs := [.ref 176, .long 31650994523828857]) (rest := []) (st1 := [.int 0]) (m_205f (d := _) (sl := 0) ((wd_k (k := 31) M.2.1 (by decide) (by decide)).trans (decide_eq_false h31))) rfl rfl rfl (fun _ _ => rfl) rfl (by exact cl_v my_205 rfl rfl rfl (Nat.le_of_ble_eq_true rfl) rfl (MH_obj rfl rfl) rfl (by decide) rfl rfl) (by rfl) (Nat.le_of_ble_eq_true rfl) (Nat.le_of_ble_eq_true rfl) rfl (by rfl) ?_
  refine w_f (a := 33) (b := 23) rfl rfl rfl ?_
  refine w_p (pc1 := 24) rfl rfl ?_
  refine w_m0 (pc1 := 27) (st1 := .long 129117075895653 :: _) rfl rfl rfl rfl ?_
  refine w_je (pc1 := 30) (vs := [.ref 176, .long 129117075895653]) (rest := []) (st1 := [.int 0]) (m_205f (d := _) (sl := 0) ((wd_k (k := 40) M.2.1 (by decide) (by decide)).trans (decide_eq_false h40))) rfl rfl rfl (fun _ _ => rfl) rfl (by exact cl_v my_205 rfl rfl rfl (Nat.le_of_ble_eq_true rfl) rfl (MH_obj rfl rfl) rfl (by decide) rfl rfl) (by rfl) (Nat.le_of_ble_eq_true rfl) (Nat.le_of_ble_eq_true rfl) rfl (by rfl) ?_
  refine w_t (a := 37) (b := 33) rfl rfl rfl ?_
  refine w_p (pc1 := 38) (st1 := .int 0 :: _) rfl rfl ?_
  refine w_p (pc1 := 39) (al1 := [(1, .int 0), (0, .ref 176)]) rfl rfl ?_
  refine w_p (pc1 := 40) rfl rfl ?_
  refine w_f (a := 69) (b := 43) rfl rfl rfl ?_
  refine w_p (pc1 := 44) rfl rfl ?_
  refine w_m0 (pc1 := 47) (st1 := .long 426953237355 :: _) rfl rfl rfl rfl ?_
  refine w_je (pc1 := 50) (vs := [.ref 176, .long 426953237355]) (rest := []) (st1 := [.int 0]) (m_205f (d := _) (sl := 0) ((wd_k (k := 12) M.2.1 (by decide) (by decide)).trans (decide_eq_false h12))) rfl rfl rfl (fun _ _ => rfl) rfl (by exact cl_v my_205 rfl rfl rfl (Nat.le_of_ble_eq_true rfl) rfl (MH_obj rfl rfl) rfl (by decide) rfl rfl) (by rfl) (Nat.le_of_ble_eq_true rfl) (Nat.le_of_ble_eq_true rfl) rfl (by rfl) ?_
  refine w_f (a := 69) (b := 53) rfl rfl rfl ?_
  refine w_p (pc1 := 54) rfl rfl ?_
  refine w_m0 (pc1 := 57) (st1 := .long 491327481202 :: _) rfl rfl rfl rfl ?_
  refine w_je (pc1 := 60) (vs := [.ref 176, .long 491327481202]) (rest := []) (st1 := [.int 0]) (m_205f (d := _) (sl := 0) ((wd_k (k := 33) M.2.1 (by decide) (by decide)).trans (decide_eq_false h33))) rfl rfl rfl (fun _ _ => rfl) rfl (by exact cl_v my_205 rfl rfl rfl (Nat.le_of_ble_eq_true rfl) rfl (MH_obj rfl rfl) rfl (by decide) rfl rfl) (by rfl) (Nat.le_of_ble_eq_true rfl) (Nat.le_of_ble_eq_true rfl) rfl (by rfl) ?_
  refine w_f (a := 69) (b := 63) rfl rfl rfl ?_
  refine w_p (pc1 := 64) rfl rfl ?_
  refine w_p (pc1 := 65) (st1 := .int 2 :: _) rfl rfl ?_
  refine w_je (pc1 := 68) (vs := [.ref 176, .int 2]) (rest := []) (st1 := []) (m_200 (d := _) (sl := 0) (fun z => absurd M.2.1.2.1 z)) rfl rfl rfl (fun _ _ => rfl) rfl (by exact cl_v my_200 rfl rfl rfl (Nat.le_of_ble_eq_true rfl) rfl (MH_obj rfl rfl) rfl (by decide) rfl rfl) (by rfl) (Nat.le_of_ble_eq_true rfl) (Nat.le_of_ble_eq_true rfl) rfl (by rfl) ?_
  refine w_r rfl rfl rfl (fun _ _ => rfl) rfl ?_
  exact Or.inr ⟨rfl, ⟨_, ⟨2, i, flS_n rfl hk1, F⟩, rfl⟩, rfl⟩
end MTJ
