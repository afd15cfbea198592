
/-! THE OTHER SIDE READS STATEMENTS, 10: LET -/
section MSL
variable {L : Nat} {xs : Nat → Int32} {B : Nat → Nat} {n : Nat} {C C' C0 C1 : co_T} {t : ab_H} {d i i0 i1 j b e p k w q : Nat} {U V : Nat → Prop} {c : Int32} {sc : sc_T} {row : Option Nat} {tg : Option (Nat × Nat)} {nl : Option Nat} {E : fe_T} {tr : Nat → Option tr_T}
variable {g ti : Nat} {pp : Nat × Nat}
set_option maxRecDepth 100000 in
theorem m_239_21 (hg : g < 8) (hU : U (32 + g)) (M : MS B n U V C0 C i nl) (R : RXM C sc none (some pp)) (h97 : C.1 97 g = nI pp.1) (h98 : C.1 98 g = nI ti) (h99 : C.1 99 g = nI pp.2) (hti : ti < 2) (hev : pp.2 < 3) (hk : kd B n i = 21) : Wd L xs (d + 11) y_239 (0, [(0, .ref 176), (1, .int (nI g))], [], MH C t, 0) (PAC B n U V C0 C t g (rAct (tkP B n) sc pp ti i nl)) nX := by
  have M1 := MS_I (v := -1) M (sx_g (V := V) (k := 101) hU (by omega)) (by omega)
  have M2 := MS_I (v := 3) M1 (sx_g (V := V) (k := 100) hU (by omega)) (by omega)
  have hB := (R.2.2.2.2 pp rfl).1
  have hB1 := hB.1
  have hk1 : kd B n i ≠ 1 := M.2.1.1
  have e97 : (sI (sI C 101 g (-1)) 100 g 3).1 97 g = nI pp.1 := by rw [sI_1, if_neg (by omega), sI_1, if_neg (by omega)]; exact h97
  have e98 : (sI (sI C 101 g (-1)) 100 g 3).1 98 g = nI ti := by rw [sI_1, if_neg (by omega), sI_1, if_neg (by omega)]; exact h98
  have e99 : (sI (sI C 101 g (-1)) 100 g 3).1 99 g = nI pp.2 := by rw [sI_1, if_neg (by omega), sI_1, if_neg (by omega)]; exact h99
  have hr : rAct (tkP B n) sc pp ti i nl = rLet (tkP B n) sc (some pp) pp.1 ti pp.2 i nl := by
    unfold rAct
    rw [if_pos (by show kd B n i = 21; exact hk)]
  rw [hr]
  by_cases h1 : ti = 1
  · have hx : rLet (tkP B n) sc (some pp) pp.1 ti pp.2 i nl = .inl (7, i) := if_pos (Or.inl h1)
    rw [hx]
    refine w_p (pc1 := 1) rfl rfl ?_
    refine w_m0 (pc1 := 4) rfl rfl (h_gC rfl rfl rfl rfl) rfl ?_
    refine w_p (pc1 := 5) rfl rfl ?_
    refine w_p (pc1 := 6) (st1 := .int (-1) :: _) rfl rfl ?_
    refine w_m0 (pc1 := 7) rfl rfl (n_is (e := g) rfl rfl rfl (by omega)) rfl ?_
    refine w_p (pc1 := 8) rfl rfl ?_
    refine w_m0 (pc1 := 11) (st1 := .long 115923103347316 :: _) rfl rfl rfl rfl ?_
    refine w_je (pc1 := 14) (vs := [.ref 176, .long 115923103347316]) (rest := []) (st1 := [.int 0]) (m_205f (d := _) (sl := 0) ((wd_k (k := 18) M1.2.1 (by decide) (by decide)).trans (decide_eq_false (by rw [hk]; decide)))) rfl rfl rfl (fun _ _ => rfl) rfl (by exact cl_v my_205 rfl rfl rfl (Nat.le_of_ble_eq_true rfl) rfl (MH_obj rfl rfl) rfl (by decide) rfl rfl) (by rfl) (Nat.le_of_ble_eq_true rfl) (Nat.le_of_ble_eq_true rfl) rfl (by rfl) ?_
    refine w_f (a := 37) (b := 17) rfl rfl rfl ?_
    refine w_p (pc1 := 18) rfl rfl ?_
    refine w_m0 (pc1 := 21) (st1 := .long 129125580895333 :: _) rfl rfl rfl rfl ?_
    refine w_je (pc1 := 24) (vs := [.ref 176, .long 129125580895333]) (rest := []) (st1 := [.int 0]) (m_205f (d := _) (sl := 0) ((wd_k (k := 41) M1.2.1 (by decide) (by decide)).trans (decide_eq_false (by rw [hk]; decide)))) rfl rfl rfl (fun _ _ => rfl) rfl (by exact cl_v my_205 rfl rfl rfl (Nat.le_of_ble_eq_true rfl) rfl (MH_obj rfl rfl) rfl (by decide) rfl rfl) (by rfl) (Nat.le_of_ble_eq_true rfl) (Nat.le_of_ble_eq_true rfl) rfl (by rfl) ?_
    refine w_f (a := 37) (b := 27) rfl rfl rfl ?_
    refine w_p (pc1 := 28) rfl rfl ?_
    refine w_m0 (pc1 := 31) (st1 := .long 110386773062757 :: _) rfl rfl rfl rfl ?_
    refine w_je (pc1 := 34) (vs := [.ref 176, .long 110386773062757]) (rest := []) (st1 := [.int 0]) (m_205f (d := _) (sl := 0) ((wd_k (k := 15) M1.2.1 (by decide) (by decide)).trans (decide_eq_false (by rw [hk]; decide)))) rfl rfl rfl (fun _ _ => rfl) rfl (by exact cl_v my_205 rfl rfl rfl (Nat.le_of_ble_eq_true rfl) rfl (MH_obj rfl rfl) rfl (by decide) rfl rfl) (by rfl) (Nat.le_of_ble_eq_true rfl) (Nat.le_of_ble_eq_true rfl) rfl (by rfl) ?_
    refine w_t (a := 78) (b := 37) rfl rfl rfl ?_
    refine w_p (pc1 := 79) rfl rfl ?_
    refine w_m0 (pc1 := 82) (st1 := .long 7103860 :: _) rfl rfl rfl rfl ?_
    refine w_je (pc1 := 85) (vs := [.ref 176, .long 7103860]) (rest := []) (st1 := [.int 1]) (m_205t (d := _) (sl := 0) ((wd_k (k := 21) M1.2.1 (by decide) (by decide)).trans (decide_eq_true hk))) rfl rfl rfl (fun _ _ => rfl) rfl (by exact cl_v my_205 rfl rfl rfl (Nat.le_of_ble_eq_true rfl) rfl (MH_obj rfl rfl) rfl (by decide) rfl rfl) (by rfl) (Nat.le_of_ble_eq_true rfl) (Nat.le_of_ble_eq_true rfl) rfl (by rfl) ?_
    refine w_f (a := 225) (b := 88) rfl rfl rfl ?_
    refine w_p (pc1 := 89) rfl rfl ?_
    refine w_m0 (pc1 := 92) rfl rfl (h_gC rfl rfl rfl rfl) rfl ?_
    refine w_p (pc1 := 93) rfl rfl ?_
    refine w_p (pc1 := 94) (st1 := .int 3 :: _) rfl rfl ?_
    refine w_m0 (pc1 := 95) rfl rfl (n_is (e := g) rfl rfl rfl (by omega)) rfl ?_
    refine w_p (pc1 := 96) rfl rfl ?_
    refine w_m0 (pc1 := 99) rfl rfl (h_gC rfl rfl rfl rfl) rfl ?_
    refine w_p (pc1 := 100) rfl rfl ?_
    refine w_m0 (pc1 := 101) (st1 := .int (nI (ti)) :: _) rfl rfl (n_ile (e := g) rfl rfl rfl (by omega) (e98)) rfl ?_
    refine w_p (pc1 := 102) (st1 := .int 1 :: _) rfl rfl ?_
    refine w_t (a := 115) (b := 105) (bN_eq_t (a := ti) (b := 1) (by omega) (by omega) (by omega)) rfl rfl ?_
    refine w_p (pc1 := 116) rfl rfl ?_
    refine w_p (pc1 := 118) (st1 := .int 7 :: _) rfl rfl ?_
    refine w_je (pc1 := 121) (vs := [.ref 176, .int 7]) (rest := []) (st1 := []) (m_200 (d := _) (sl := 0) (fun z => absurd M2.2.1.2.1 z)) rfl rfl rfl (fun _ _ => rfl) rfl (by exact cl_v my_200 rfl rfl rfl (Nat.le_of_ble_eq_true rfl) rfl (MH_obj rfl rfl) rfl (by decide) rfl rfl) (by rfl) (Nat.le_of_ble_eq_true rfl) (Nat.le_of_ble_eq_true rfl) rfl (by rfl) ?_
    refine w_r rfl rfl rfl (fun _ _ => rfl) rfl ?_
    exact Or.inr ⟨rfl, ⟨_, ⟨7, i, flS_n rfl hk1, FS_new M2 (by decide)⟩, rfl⟩, rfl⟩
  by_cases h2 : pp.2 = 2
  · have hx : rLet (tkP B n) sc (some pp) pp.1 ti pp.2 i nl = .inl (7, i) := if_pos (Or.inr h2)
    rw [hx]
    refine w_p (pc1 := 1) rfl rfl ?_
    refine w_m0 (pc1 := 4) rfl rfl (h_gC rfl rfl rfl rfl) rfl ?_
    refine w_p (pc1 := 5) rfl rfl ?_
    refine w_p (pc1 := 6) (st1 := .int (-1) :: _) rfl rfl ?_
    refine w_m0 (pc1 := 7) rfl rfl (n_is (e := g) rfl rfl rfl (by omega)) rfl ?_
    refine w_p (pc1 := 8) rfl rfl ?_
    refine w_m0 (pc1 := 11) (st1 := .long 115923103347316 :: _) rfl rfl rfl rfl ?_
    refine w_je (pc1 := 14) (vs := [.ref 176, .long 115923103347316]) (rest := []) (st1 := [.int 0]) (m_205f (d := _) (sl := 0) ((wd_k (k := 18) M1.2.1 (by decide) (by decide)).trans (decide_eq_false (by rw [hk]; decide)))) rfl rfl rfl (fun _ _ => rfl) rfl (by exact cl_v my_205 rfl rfl rfl (Nat.le_of_ble_eq_true rfl) rfl (MH_obj rfl rfl) rfl (by decide) rfl rfl) (by rfl) (Nat.le_of_ble_eq_true rfl) (Nat.le_of_ble_eq_true rfl) rfl (by rfl) ?_
    refine w_f (a := 37) (b := 17) rfl rfl rfl ?_
    refine w_p (pc1 := 18) rfl rfl ?_
    refine w_m0 (pc1 := 21) (st1 := .long 129125580895333 :: _) rfl rfl rfl rfl ?_
    refine w_je (pc1 := 24) (vs := [.ref 176, .long 129125580895333]) (rest := []) (st1 := [.int 0]) (m_205f (d := _) (sl := 0) ((wd_k (k := 41) M1.2.1 (by decide) (by decide)).trans (decide_eq_false (by rw [hk]; decide)))) rfl rfl rfl (fun _ _ => rfl) rfl (by exact cl_v my_205 rfl rfl rfl (Nat.le_of_ble_eq_true rfl) rfl (MH_obj rfl rfl) rfl (by decide) rfl rfl) (by rfl) (Nat.le_of_ble_eq_true rfl) (Nat.le_of_ble_eq_true rfl) rfl (by rfl) ?_
    refine w_f (a := 37) (b := 27) rfl rfl rfl ?_
    refine w_p (pc1 := 28) rfl rfl ?_
    refine w_m0 (pc1 := 31) (st1 := .long 110386773062757 :: _) rfl rfl rfl rfl ?_
    refine w_je (pc1 := 34) (vs := [.ref 176, .long 110386773062757]) (rest := []) (st1 := [.int 0]) (m_205f (d := _) (sl := 0) ((wd_k (k := 15) M1.2.1 (by decide) (by decide)).trans (decide_eq_false (by rw [hk]; decide)))) rfl rfl rfl (fun _ _ => rfl) rfl (by exact cl_v my_205 rfl rfl rfl (Nat.le_of_ble_eq_true rfl) rfl (MH_obj rfl rfl) rfl (by decide) rfl rfl) (by rfl) (Nat.le_of_ble_eq_true rfl) (Nat.le_of_ble_eq_true rfl) rfl (by rfl) ?_
    refine w_t (a := 78) (b := 37) rfl rfl rfl ?_
    refine w_p (pc1 := 79) rfl rfl ?_
    refine w_m0 (pc1 := 82) (st1 := .long 7103860 :: _) rfl rfl rfl rfl ?_
    refine w_je (pc1 := 85) (vs := [.ref 176, .long 7103860]) (rest := []) (st1 := [.int 1]) (m_205t (d := _) (sl := 0) ((wd_k (k := 21) M1.2.1 (by decide) (by decide)).trans (decide_eq_true hk))) rfl rfl rfl (fun _ _ => rfl) rfl (by exact cl_v my_205 rfl rfl rfl (Nat.le_of_ble_eq_true rfl) rfl (MH_obj rfl rfl) rfl (by decide) rfl rfl) (by rfl) (Nat.le_of_ble_eq_true rfl) (Nat.le_of_ble_eq_true rfl) rfl (by rfl) ?_
    refine w_f (a := 225) (b := 88) rfl rfl rfl ?_
    refine w_p (pc1 := 89) rfl rfl ?_
    refine w_m0 (pc1 := 92) rfl rfl (h_gC rfl rfl rfl rfl) rfl ?_
    refine w_p (pc1 := 93) rfl rfl ?_
    refine w_p (pc1 := 94) (st1 := .int 3 :: _) rfl rfl ?_
    refine w_m0 (pc1 := 95) rfl rfl (n_is (e := g) rfl rfl rfl (by omega)) rfl ?_
    refine w_p (pc1 := 96) rfl rfl ?_
    refine w_m0 (pc1 := 99) rfl rfl (h_gC rfl rfl rfl rfl) rfl ?_
    refine w_p (pc1 := 100) rfl rfl ?_
    refine w_m0 (pc1 := 101) (st1 := .int (nI (ti)) :: _) rfl rfl (n_ile (e := g) rfl rfl rfl (by omega) (e98)) rfl ?_
    refine w_p (pc1 := 102) (st1 := .int 1 :: _) rfl rfl ?_
    refine w_f (a := 115) (b := 105) (bN_eq_f (a := ti) (b := 1) (by omega) (by omega) (by omega)) rfl rfl ?_
    refine w_p (pc1 := 106) rfl rfl ?_
    refine w_m0 (pc1 := 109) rfl rfl (h_gC rfl rfl rfl rfl) rfl ?_
    refine w_p (pc1 := 110) rfl rfl ?_
    refine w_m0 (pc1 := 111) (st1 := .int (nI (pp.2)) :: _) rfl rfl (n_ile (e := g) rfl rfl rfl (by omega) (e99)) rfl ?_
    refine w_p (pc1 := 112) (st1 := .int 2 :: _) rfl rfl ?_
    refine w_f (a := 122) (b := 115) (bN_ne_f (a := pp.2) (b := 2) (by omega) (by omega) (by omega)) rfl rfl ?_
    refine w_p (pc1 := 116) rfl rfl ?_
    refine w_p (pc1 := 118) (st1 := .int 7 :: _) rfl rfl ?_
    refine w_je (pc1 := 121) (vs := [.ref 176, .int 7]) (rest := []) (st1 := []) (m_200 (d := _) (sl := 0) (fun z => absurd M2.2.1.2.1 z)) rfl rfl rfl (fun _ _ => rfl) rfl (by exact cl_v my_200 rfl rfl rfl (Nat.le_of_ble_eq_true rfl) rfl (MH_obj rfl rfl) rfl (by decide) rfl rfl) (by rfl) (Nat.le_of_ble_eq_true rfl) (Nat.le_of_ble_eq_true rfl) rfl (by rfl) ?_
    refine w_r rfl rfl rfl (fun _ _ => rfl) rfl ?_
    exact Or.inr ⟨rfl, ⟨_, ⟨7, i, flS_n rfl hk1, FS_new M2 (by decide)⟩, rfl⟩, rfl⟩
  have hx : rLet (tkP B n) sc (some pp) pp.1 ti pp.2 i nl = pb (rCol (tkP B n) sc pp.1 [] (i + 1)) (fun c => pb (xpP (tkP B n) 50 c.2) (fun j => pb (rFm (fE (tkP B n) sc none (some pp)) 3 j nl) (fun x => .inr ((3, none, [c.1], [some x.1], none, 0), x.2)))) := if_neg (by omega)
  rw [hx]
  by_cases h3 : kd B n (i + 1) = 3
  · by_cases hf : clF sc pp.1 (vl B n (i + 1)) = -1
    · have hy : rCol (tkP B n) sc pp.1 [] (i + 1) = .inl (4, i + 1) := rCol_4 h3 hf
      refine w_p (pc1 := 1) rfl rfl ?_
      refine w_m0 (pc1 := 4) rfl rfl (h_gC rfl rfl rfl rfl) rfl ?_
      refine w_p (pc1 := 5) rfl rfl ?_
      refine w_p (pc1 := 6) (st1 := .int (-1) :: _) rfl rfl ?_
      refine w_m0 (pc1 := 7) rfl rfl (n_is (e := g) rfl rfl rfl (by omega)) rfl ?_
      refine w_p (pc1 := 8) rfl rfl ?_
      refine w_m0 (pc1 := 11) (st1 := .long 115923103347316 :: _) rfl rfl rfl rfl ?_
      refine w_je (pc1 := 14) (vs := [.ref 176, .long 115923103347316]) (rest := []) (st1 := [.int 0]) (m_205f (d := _) (sl := 0) ((wd_k (k := 18) M1.2.1 (by decide) (by decide)).trans (decide_eq_false (by rw [hk]; decide)))) rfl rfl rfl (fun _ _ => rfl) rfl (by exact cl_v my_205 rfl rfl rfl (Nat.le_of_ble_eq_true rfl) rfl (MH_obj rfl rfl) rfl (by decide) rfl rfl) (by rfl) (Nat.le_of_ble_eq_true rfl) (Nat.le_of_ble_eq_true rfl) rfl (by rfl) ?_
      refine w_f (a := 37) (b := 17) rfl rfl rfl ?_
      refine w_p (pc1 := 18) rfl rfl ?_
      refine w_m0 (pc1 := 21) (st1 := .long 129125580895333 :: _) rfl rfl rfl rfl ?_
      refine w_je (pc1 := 24) (vs := [.ref 176, .long 129125580895333]) (rest := []) (st1 := [.int 0]) (m_205f (d := _) (sl := 0) ((wd_k (k := 41) M1.2.1 (by decide) (by decide)).trans (decide_eq_false (by rw [hk]; decide)))) rfl rfl rfl (fun _ _ => rfl) rfl (by exact cl_v my_205 rfl rfl rfl (Nat.le_of_ble_eq_true rfl) rfl (MH_obj rfl rfl) rfl (by decide) rfl rfl) (by rfl) (Nat.le_of_ble_eq_true rfl) (Nat.le_of_ble_eq_true rfl) rfl (by rfl) ?_
      refine w_f (a := 37) (b := 27) rfl rfl rfl ?_
      refine w_p (pc1 := 28) rfl rfl ?_
      refine w_m0 (pc1 := 31) (st1 := .long 110386773062757 :: _) rfl rfl rfl rfl ?_
      refine w_je (pc1 := 34) (vs := [.ref 176, .long 110386773062757]) (rest := []) (st1 := [.int 0]) (m_205f (d := _) (sl := 0) ((wd_k (k := 15) M1.2.1 (by decide) (by decide)).trans (decide_eq_false (by rw [hk]; decide)))) rfl rfl rfl (fun _ _ => rfl) rfl (by exact cl_v my_205 rfl rfl rfl (Nat.le_of_ble_eq_true rfl) rfl (MH_obj rfl rfl) rfl (by decide) rfl rfl) (by rfl) (Nat.le_of_ble_eq_true rfl) (Nat.le_of_ble_eq_true rfl) rfl (by rfl) ?_
      refine w_t (a := 78) (b := 37) rfl rfl rfl ?_
      refine w_p (pc1 := 79) rfl rfl ?_
      refine w_m0 (pc1 := 82) (st1 := .long 7103860 :: _) rfl rfl rfl rfl ?_
      refine w_je (pc1 := 85) (vs := [.ref 176, .long 7103860]) (rest := []) (st1 := [.int 1]) (m_205t (d := _) (sl := 0) ((wd_k (k := 21) M1.2.1 (by decide) (by decide)).trans (decide_eq_true hk))) rfl rfl rfl (fun _ _ => rfl) rfl (by exact cl_v my_205 rfl rfl rfl (Nat.le_of_ble_eq_true rfl) rfl (MH_obj rfl rfl) rfl (by decide) rfl rfl) (by rfl) (Nat.le_of_ble_eq_true rfl) (Nat.le_of_ble_eq_true rfl) rfl (by rfl) ?_
      refine w_f (a := 225) (b := 88) rfl rfl rfl ?_
      refine w_p (pc1 := 89) rfl rfl ?_
      refine w_m0 (pc1 := 92) rfl rfl (h_gC rfl rfl rfl rfl) rfl ?_
      refine w_p (pc1 := 93) rfl rfl ?_
      refine w_p (pc1 := 94) (st1 := .int 3 :: _) rfl rfl ?_
      refine w_m0 (pc1 := 95) rfl rfl (n_is (e := g) rfl rfl rfl (by omega)) rfl ?_
      refine w_p (pc1 := 96) rfl rfl ?_
      refine w_m0 (pc1 := 99) rfl rfl (h_gC rfl rfl rfl rfl) rfl ?_
      refine w_p (pc1 := 100) rfl rfl ?_
      refine w_m0 (pc1 := 101) (st1 := .int (nI (ti)) :: _) rfl rfl (n_ile (e := g) rfl rfl rfl (by omega) (e98)) rfl ?_
      refine w_p (pc1 := 102) (st1 := .int 1 :: _) rfl rfl ?_
      refine w_f (a := 115) (b := 105) (bN_eq_f (a := ti) (b := 1) (by omega) (by omega) (by omega)) rfl rfl ?_
      refine w_p (pc1 := 106) rfl rfl ?_
      refine w_m0 (pc1 := 109) rfl rfl (h_gC rfl rfl rfl rfl) rfl ?_
      refine w_p (pc1 := 110) rfl rfl ?_
      refine w_m0 (pc1 := 111) (st1 := .int (nI (pp.2)) :: _) rfl rfl (n_ile (e := g) rfl rfl rfl (by omega) (e99)) rfl ?_
      refine w_p (pc1 := 112) (st1 := .int 2 :: _) rfl rfl ?_
      refine w_t (a := 122) (b := 115) (bN_ne_t (a := pp.2) (b := 2) (by omega) (by omega) (by omega)) rfl rfl ?_
      refine w_p (pc1 := 123) rfl rfl ?_
      refine w_ji (pc1 := 126) (vs := [.ref 176]) (rest := []) (nS (d := _) M2 (by rw [hk]; decide)) rfl rfl rfl (fun _ _ => rfl) rfl (by exact cl_v my_195 rfl rfl rfl (Nat.le_of_ble_eq_true rfl) rfl (MH_obj rfl rfl) rfl (by decide) rfl rfl) (by rfl) (Nat.le_of_ble_eq_true rfl) (Nat.le_of_ble_eq_true rfl) rfl (fun v h1 d1 hq => ?_) (fun _ _ _ e => e.elim)
      rcases hq with ⟨hv, ⟨C3, ⟨g3, M3, f3⟩, hh⟩, hn⟩ | ⟨hv, ⟨C3, ⟨g3, F3, f3⟩, hh⟩, hn⟩
      · subst hv; subst hh; subst hn
        refine w_p (pc1 := 127) rfl rfl ?_
        refine w_je (pc1 := 130) (vs := [.ref 176]) (rest := []) (st1 := [.int 1]) (m_207y (d := _) M3 h3) rfl rfl rfl (fun _ _ => rfl) rfl (by exact cl_v my_207 rfl rfl rfl (Nat.le_of_ble_eq_true rfl) rfl (MH_obj rfl rfl) rfl (by decide) rfl rfl) (by rfl) (Nat.le_of_ble_eq_true rfl) (Nat.le_of_ble_eq_true rfl) rfl (by rfl) ?_
        refine w_t (a := 134) (b := 133) rfl rfl rfl ?_
        refine w_p (pc1 := 135) rfl rfl ?_
        refine w_m0 (pc1 := 138) rfl rfl (h_gC rfl rfl rfl rfl) rfl ?_
        refine w_p (pc1 := 139) rfl rfl ?_
        refine w_p (pc1 := 140) rfl rfl ?_
        refine w_p (pc1 := 141) rfl rfl ?_
        refine w_m0 (pc1 := 144) rfl rfl (h_gC rfl rfl rfl rfl) rfl ?_
        refine w_p (pc1 := 145) rfl rfl ?_
        refine w_m0 (pc1 := 146) (st1 := .int (nI (pp.1)) :: _) rfl rfl (n_ile (e := g) rfl rfl rfl (by omega) ((f3.1 97 g (by omega)).trans e97)) rfl ?_
        refine w_p (pc1 := 147) rfl rfl ?_
        refine w_m0 (pc1 := 150) (st1 := .long (vl B n (i + 1)) :: _) rfl rfl (h_gJe (j := 7) rfl rfl rfl rfl rfl (by rw [M3.2.1.2.2.2.1, h3]; rfl)) rfl ?_
        refine w_je (pc1 := 153) (vs := [.ref 176, .int (nI (pp.1)), .long (vl B n (i + 1))]) (rest := [.int (nI (g)), .ref 202]) (st1 := [.int (-1), .int (nI (g)), .ref 202]) (m_213r (d := _) (sl := 0) (TBM_o hB (fun j => by rw [f3.1 80 j (by omega), sI_1, if_neg (by omega), sI_1, if_neg (by omega)]) (fun j => f3.2.1 81 j (by omega))) hf) rfl rfl rfl (fun _ _ => rfl) rfl (by exact cl_v my_213 rfl rfl rfl (Nat.le_of_ble_eq_true rfl) rfl (MH_obj rfl rfl) rfl (by decide) rfl rfl) (by rfl) (Nat.le_of_ble_eq_true rfl) (Nat.le_of_ble_eq_true rfl) rfl (by rfl) ?_
        refine w_m0 (pc1 := 154) rfl rfl (n_is (e := g) rfl rfl rfl (by omega)) rfl ?_
        refine w_p (pc1 := 155) rfl rfl ?_
        refine w_m0 (pc1 := 158) rfl rfl (h_gC rfl rfl rfl rfl) rfl ?_
        refine w_p (pc1 := 159) rfl rfl ?_
        refine w_m0 (pc1 := 160) (st1 := .int (-1) :: _) rfl rfl (n_ile (e := g) rfl rfl rfl (by omega) (by rw [sI_1, if_pos ⟨rfl, rfl⟩])) rfl ?_
        refine w_p (pc1 := 161) (st1 := .int (-1) :: _) rfl rfl ?_
        refine w_f (a := 170) (b := 164) rfl rfl rfl ?_
        refine w_p (pc1 := 165) rfl rfl ?_
        refine w_p (pc1 := 166) (st1 := .int 4 :: _) rfl rfl ?_
        refine w_je (pc1 := 169) (vs := [.ref 176, .int 4]) (rest := []) (st1 := []) (m_200 (d := _) (sl := 0) (fun z => absurd (MS_I (v := -1) M3 (sx_g (V := V) (k := 102) hU (by omega)) (by omega)).2.1.2.1 z)) rfl rfl rfl (fun _ _ => rfl) rfl (by exact cl_v my_200 rfl rfl rfl (Nat.le_of_ble_eq_true rfl) rfl (MH_obj rfl rfl) rfl (by decide) rfl rfl) (by rfl) (Nat.le_of_ble_eq_true rfl) (Nat.le_of_ble_eq_true rfl) rfl (by rfl) ?_
        refine w_r rfl rfl rfl (fun _ _ => rfl) rfl ?_
        exact Or.inr ⟨rfl, ⟨_, ⟨4, i + 1, flS_n (pb_l hy) g3, FS_new (MS_I (v := -1) M3 (sx_g (V := V) (k := 102) hU (by omega)) (by omega)) (by decide)⟩, rfl⟩, rfl⟩
      · subst hv; subst hh; subst hn
        refine w_p (pc1 := 127) rfl rfl ?_
        refine w_je (pc1 := 130) (vs := [.ref 176]) (rest := []) (st1 := [.int 0]) (m_207f (d := _) F3) rfl rfl rfl (fun _ _ => rfl) rfl (by exact cl_v my_207 rfl rfl rfl (Nat.le_of_ble_eq_true rfl) rfl (MH_obj rfl rfl) rfl (by decide) rfl rfl) (by rfl) (Nat.le_of_ble_eq_true rfl) (Nat.le_of_ble_eq_true rfl) rfl (by rfl) ?_
        refine w_f (a := 134) (b := 133) rfl rfl rfl ?_
        refine w_r rfl rfl rfl (fun _ _ => rfl) rfl ?_
        exact Or.inr ⟨rfl, ⟨_, ⟨1, i + 1, flS_1 (bdS_b (bdS_c g3)) g3, F3⟩, rfl⟩, rfl⟩
    · obtain ⟨q, hq1, hq2, hq3⟩ := clF_b hB.2.2.1 hf
      have hy : rCol (tkP B n) sc pp.1 [] (i + 1) = .inr (q, i + 1 + 1) := rCol_s h3 hf hq3 rfl
      have hq6 : q < 6 := Nat.lt_of_lt_of_le hq2 hB.2.2.1
      rw [pb_r hy]
      have k4 : ∀ C3, MS B n U V C0 C3 (i + 1) nl → MS B n U V C0 (sI C3 102 g (nI q)) (i + 1) nl := fun C3 M3 => MS_I M3 (sx_g (V := V) (k := 102) hU (by omega)) (by omega)
      have k7 : ∀ C6, MS B n U V C0 C6 (i + 1 + 1 + 1) nl → MS B n U V C0 (sI (sI (sI C6 76 40 (nI (32 + g))) 76 41 0) 76 46 (-1)) (i + 1 + 1 + 1) nl := fun C6 M6 => MS_I (MS_I (MS_I M6 (sx_76 (by omega)) (by omega)) (sx_76 (by omega)) (by omega)) (sx_76 (by omega)) (by omega)
      have k8 : ∀ C3, frT (sI (sI C 101 g (-1)) 100 g 3) C3 → ∀ C5, frT (sI C3 102 g (nI q)) C5 → ∀ C6, frT C5 C6 → RXM (sI (sI (sI C6 76 40 (nI (32 + g))) 76 41 0) 76 46 (-1)) sc none (some pp) := by
        intro C3 f3 C5 f5 C6 f6
        have R6 := RXM_T (RXM_T (RXM_1 (k := 102) (j := g) (v := nI q) (RXM_T (RXM_1 (k := 100) (j := g) (v := 3) (RXM_1 (k := 101) (j := g) (v := -1) R (by omega)) (by omega)) f3) (by omega)) f5) f6
        refine ⟨by rw [sI_1, if_pos ⟨rfl, rfl⟩]; rfl, ?_, ?_, fun b e => (by cases e), fun z hz => ?_⟩
        · rw [sI_1, if_neg (by omega), sI_1, if_neg (by omega), sI_1, if_neg (by omega)]
          exact R6.2.1
        · rw [sI_1, if_neg (by omega), sI_1, if_neg (by omega), sI_1, if_neg (by omega), sI_1, if_neg (by omega), sI_1, if_neg (by omega), sI_1, if_neg (by omega)]
          exact R6.2.2.1
        · rw [sI_1, if_neg (by omega), sI_1, if_neg (by omega), sI_1, if_neg (by omega), sI_1, if_neg (by omega), sI_1, if_neg (by omega), sI_1, if_neg (by omega)]
          exact ⟨TBM_o (R6.2.2.2.2 z hz).1 (fun j => by rw [sI_1, if_neg (by omega), sI_1, if_neg (by omega), sI_1, if_neg (by omega)]) (fun _ => rfl), (R6.2.2.2.2 z hz).2⟩
      refine w_p (pc1 := 1) rfl rfl ?_
      refine w_m0 (pc1 := 4) rfl rfl (h_gC rfl rfl rfl rfl) rfl ?_
      refine w_p (pc1 := 5) rfl rfl ?_
      refine w_p (pc1 := 6) (st1 := .int (-1) :: _) rfl rfl ?_
      refine w_m0 (pc1 := 7) rfl rfl (n_is (e := g) rfl rfl rfl (by omega)) rfl ?_
      refine w_p (pc1 := 8) rfl rfl ?_
      refine w_m0 (pc1 := 11) (st1 := .long 115923103347316 :: _) rfl rfl rfl rfl ?_
      refine w_je (pc1 := 14) (vs := [.ref 176, .long 115923103347316]) (rest := []) (st1 := [.int 0]) (m_205f (d := _) (sl := 0) ((wd_k (k := 18) M1.2.1 (by decide) (by decide)).trans (decide_eq_false (by rw [hk]; decide)))) rfl rfl rfl (fun _ _ => rfl) rfl (by exact cl_v my_205 rfl rfl rfl (Nat.le_of_ble_eq_true rfl) rfl (MH_obj rfl rfl) rfl (by decide) rfl rfl) (by rfl) (Nat.le_of_ble_eq_true rfl) (Nat.le_of_ble_eq_true rfl) rfl (by rfl) ?_
      refine w_f (a := 37) (b := 17) rfl rfl rfl ?_
      refine w_p (pc1 := 18) rfl rfl ?_
      refine w_m0 (pc1 := 21) (st1 := .long 129125580895333 :: _) rfl rfl rfl rfl ?_
      refine w_je (pc1 := 24) (vs := [.ref 176, .long 129125580895333]) (rest := []) (st1 := [.int 0]) (m_205f (d := _) (sl := 0) ((wd_k (k := 41) M1.2.1 (by decide) (by decide)).trans (decide_eq_false (by rw [hk]; decide)))) rfl rfl rfl (fun _ _ => rfl) rfl (by exact cl_v my_205 rfl rfl rfl (Nat.le_of_ble_eq_true rfl) rfl (MH_obj rfl rfl) rfl (by decide) rfl rfl) (by rfl) (Nat.le_of_ble_eq_true rfl) (Nat.le_of_ble_eq_true rfl) rfl (by rfl) ?_
      refine w_f (a := 37) (b := 27) rfl rfl rfl ?_
      refine w_p (pc1 := 28) rfl rfl ?_
      refine w_m0 (pc1 := 31) (st1 := .long 110386773062757 :: _) rfl rfl rfl rfl ?_
      refine w_je (pc1 := 34) (vs := [.ref 176, .long 110386773062757]) (rest := []) (st1 := [.int 0]) (m_205f (d := _) (sl := 0) ((wd_k (k := 15) M1.2.1 (by decide) (by decide)).trans (decide_eq_false (by rw [hk]; decide)))) rfl rfl rfl (fun _ _ => rfl) rfl (by exact cl_v my_205 rfl rfl rfl (Nat.le_of_ble_eq_true rfl) rfl (MH_obj rfl rfl) rfl (by decide) rfl rfl) (by rfl) (Nat.le_of_ble_eq_true rfl) (Nat.le_of_ble_eq_true rfl) rfl (by rfl) ?_
      refine w_t (a := 78) (b := 37) rfl rfl rfl ?_
      refine w_p (pc1 := 79) rfl rfl ?_
      refine w_m0 (pc1 := 82) (st1 := .long 7103860 :: _) rfl rfl rfl rfl ?_
      refine w_je (pc1 := 85) (vs := [.ref 176, .long 7103860]) (rest := []) (st1 := [.int 1]) (m_205t (d := _) (sl := 0) ((wd_k (k := 21) M1.2.1 (by decide) (by decide)).trans (decide_eq_true hk))) rfl rfl rfl (fun _ _ => rfl) rfl (by exact cl_v my_205 rfl rfl rfl (Nat.le_of_ble_eq_true rfl) rfl (MH_obj rfl rfl) rfl (by decide) rfl rfl) (by rfl) (Nat.le_of_ble_eq_true rfl) (Nat.le_of_ble_eq_true rfl) rfl (by rfl) ?_
      refine w_f (a := 225) (b := 88) rfl rfl rfl ?_
      refine w_p (pc1 := 89) rfl rfl ?_
      refine w_m0 (pc1 := 92) rfl rfl (h_gC rfl rfl rfl rfl) rfl ?_
      refine w_p (pc1 := 93) rfl rfl ?_
      refine w_p (pc1 := 94) (st1 := .int 3 :: _) rfl rfl ?_
      refine w_m0 (pc1 := 95) rfl rfl (n_is (e := g) rfl rfl rfl (by omega)) rfl ?_
      refine w_p (pc1 := 96) rfl rfl ?_
      refine w_m0 (pc1 := 99) rfl rfl (h_gC rfl rfl rfl rfl) rfl ?_
      refine w_p (pc1 := 100) rfl rfl ?_
      refine w_m0 (pc1 := 101) (st1 := .int (nI (ti)) :: _) rfl rfl (n_ile (e := g) rfl rfl rfl (by omega) (e98)) rfl ?_
      refine w_p (pc1 := 102) (st1 := .int 1 :: _) rfl rfl ?_
      refine w_f (a := 115) (b := 105) (bN_eq_f (a := ti) (b := 1) (by omega) (by omega) (by omega)) rfl rfl ?_
      refine w_p (pc1 := 106) rfl rfl ?_
      refine w_m0 (pc1 := 109) rfl rfl (h_gC rfl rfl rfl rfl) rfl ?_
      refine w_p (pc1 := 110) rfl rfl ?_
      refine w_m0 (pc1 := 111) (st1 := .int (nI (pp.2)) :: _) rfl rfl (n_ile (e := g) rfl rfl rfl (by omega) (e99)) rfl ?_
      refine w_p (pc1 := 112) (st1 := .int 2 :: _) rfl rfl ?_
      refine w_t (a := 122) (b := 115) (bN_ne_t (a := pp.2) (b := 2) (by omega) (by omega) (by omega)) rfl rfl ?_
      refine w_p (pc1 := 123) rfl rfl ?_
      refine w_ji (pc1 := 126) (vs := [.ref 176]) (rest := []) (nS (d := _) M2 (by rw [hk]; decide)) rfl rfl rfl (fun _ _ => rfl) rfl (by exact cl_v my_195 rfl rfl rfl (Nat.le_of_ble_eq_true rfl) rfl (MH_obj rfl rfl) rfl (by decide) rfl rfl) (by rfl) (Nat.le_of_ble_eq_true rfl) (Nat.le_of_ble_eq_true rfl) rfl (fun v h1 d1 hq => ?_) (fun _ _ _ e => e.elim)
      rcases hq with ⟨hv, ⟨C3, ⟨g3, M3, f3⟩, hh⟩, hn⟩ | ⟨hv, ⟨C3, ⟨g3, F3, f3⟩, hh⟩, hn⟩
      · subst hv; subst hh; subst hn
        refine w_p (pc1 := 127) rfl rfl ?_
        refine w_je (pc1 := 130) (vs := [.ref 176]) (rest := []) (st1 := [.int 1]) (m_207y (d := _) M3 h3) rfl rfl rfl (fun _ _ => rfl) rfl (by exact cl_v my_207 rfl rfl rfl (Nat.le_of_ble_eq_true rfl) rfl (MH_obj rfl rfl) rfl (by decide) rfl rfl) (by rfl) (Nat.le_of_ble_eq_true rfl) (Nat.le_of_ble_eq_true rfl) rfl (by rfl) ?_
        refine w_t (a := 134) (b := 133) rfl rfl rfl ?_
        refine w_p (pc1 := 135) rfl rfl ?_
        refine w_m0 (pc1 := 138) rfl rfl (h_gC rfl rfl rfl rfl) rfl ?_
        refine w_p (pc1 := 139) rfl rfl ?_
        refine w_p (pc1 := 140) rfl rfl ?_
        refine w_p (pc1 := 141) rfl rfl ?_
        refine w_m0 (pc1 := 144) rfl rfl (h_gC rfl rfl rfl rfl) rfl ?_
        refine w_p (pc1 := 145) rfl rfl ?_
        refine w_m0 (pc1 := 146) (st1 := .int (nI (pp.1)) :: _) rfl rfl (n_ile (e := g) rfl rfl rfl (by omega) ((f3.1 97 g (by omega)).trans e97)) rfl ?_
        refine w_p (pc1 := 147) rfl rfl ?_
        refine w_m0 (pc1 := 150) (st1 := .long (vl B n (i + 1)) :: _) rfl rfl (h_gJe (j := 7) rfl rfl rfl rfl rfl (by rw [M3.2.1.2.2.2.1, h3]; rfl)) rfl ?_
        refine w_je (pc1 := 153) (vs := [.ref 176, .int (nI (pp.1)), .long (vl B n (i + 1))]) (rest := [.int (nI (g)), .ref 202]) (st1 := [.int (nI (q)), .int (nI (g)), .ref 202]) (m_213r (d := _) (sl := 0) (TBM_o hB (fun j => by rw [f3.1 80 j (by omega), sI_1, if_neg (by omega), sI_1, if_neg (by omega)]) (fun j => f3.2.1 81 j (by omega))) hq1) rfl rfl rfl (fun _ _ => rfl) rfl (by exact cl_v my_213 rfl rfl rfl (Nat.le_of_ble_eq_true rfl) rfl (MH_obj rfl rfl) rfl (by decide) rfl rfl) (by rfl) (Nat.le_of_ble_eq_true rfl) (Nat.le_of_ble_eq_true rfl) rfl (by rfl) ?_
        refine w_m0 (pc1 := 154) rfl rfl (n_is (e := g) rfl rfl rfl (by omega)) rfl ?_
        refine w_p (pc1 := 155) rfl rfl ?_
        refine w_m0 (pc1 := 158) rfl rfl (h_gC rfl rfl rfl rfl) rfl ?_
        refine w_p (pc1 := 159) rfl rfl ?_
        refine w_m0 (pc1 := 160) (st1 := .int (nI (q)) :: _) rfl rfl (n_ile (e := g) rfl rfl rfl (by omega) (by rw [sI_1, if_pos ⟨rfl, rfl⟩])) rfl ?_
        refine w_p (pc1 := 161) (st1 := .int (-1) :: _) rfl rfl ?_
        refine w_t (a := 170) (b := 164) (cb_ne_t (by exact nK_m1 (by omega))) rfl rfl ?_
        refine w_p (pc1 := 171) rfl rfl ?_
        refine w_ji (pc1 := 174) (vs := [.ref 176]) (rest := []) (nS (d := _) (k4 _ M3) (by rw [h3]; decide)) rfl rfl rfl (fun _ _ => rfl) rfl (by exact cl_v my_195 rfl rfl rfl (Nat.le_of_ble_eq_true rfl) rfl (MH_obj rfl rfl) rfl (by decide) rfl rfl) (by rfl) (Nat.le_of_ble_eq_true rfl) (Nat.le_of_ble_eq_true rfl) rfl (fun v h1 d1 hq => ?_) (fun _ _ _ e => e.elim)
        rcases hq with ⟨hv, ⟨C5, ⟨g5, M5, f5⟩, hh⟩, hn⟩ | ⟨hv, ⟨C5, ⟨g5, F5, f5⟩, hh⟩, hn⟩
        · subst hv; subst hh; subst hn
          refine w_p (pc1 := 175) rfl rfl ?_
          refine w_p (pc1 := 177) (st1 := .int 61 :: _) rfl rfl ?_
          refine w_ji (pc1 := 180) (vs := [.ref 176, .int 61]) (rest := []) (m_209 (k := 50) (d := _) (by decide) (by decide) rfl M5) rfl rfl rfl (fun _ _ => rfl) rfl (by exact cl_v my_209 rfl rfl rfl (Nat.le_of_ble_eq_true rfl) rfl (MH_obj rfl rfl) rfl (by decide) rfl rfl) (by rfl) (Nat.le_of_ble_eq_true rfl) (Nat.le_of_ble_eq_true rfl) rfl (fun v h1 d1 hq => ?_) (fun _ _ _ e => e.elim)
          rcases hq with ⟨hv, ⟨C6, ⟨g6, g7, M6, f6⟩, hh⟩, hn⟩ | ⟨hv, ⟨C6, ⟨c6, j6, g6, F6, f6⟩, hh⟩, hn⟩
          · subst hv; subst hh; subst hn
            refine w_p (pc1 := 181) rfl rfl ?_
            refine w_m0 (pc1 := 184) rfl rfl (h_gI (j := 8) rfl rfl rfl rfl rfl) rfl ?_
            refine w_f (a := 295) (b := 187) (cb_ne_f (by exact M6.2.1.2.1)) rfl rfl ?_
            refine w_p (pc1 := 188) rfl rfl ?_
            refine w_p (pc1 := 190) (st1 := .int 32 :: _) rfl rfl ?_
            refine w_p (pc1 := 191) rfl rfl ?_
            refine w_iadd (pc1 := 192) (u := nI (32)) (v := nI (g)) (z := nI (32 + g)) rfl (nK_add) rfl ?_
            refine w_m0 (pc1 := 195) rfl rfl (h_pI (j := 40) rfl rfl rfl rfl rfl rfl rfl ⟨rfl, rfl⟩ rfl) rfl ?_
            refine w_p (pc1 := 196) rfl rfl ?_
            refine w_p (pc1 := 197) (st1 := .int 0 :: _) rfl rfl ?_
            refine w_m0 (pc1 := 200) rfl rfl (h_pI (j := 41) rfl rfl rfl rfl rfl rfl rfl ⟨rfl, rfl⟩ rfl) rfl ?_
            refine w_p (pc1 := 201) rfl rfl ?_
            refine w_p (pc1 := 202) (st1 := .int (-1) :: _) rfl rfl ?_
            refine w_m0 (pc1 := 205) rfl rfl (h_pI (j := 46) rfl rfl rfl rfl rfl rfl rfl ⟨rfl, rfl⟩ rfl) rfl ?_
            refine w_p (pc1 := 206) rfl rfl ?_
            refine w_ji (pc1 := 209) (vs := [.ref 176]) (rest := []) (sumS (d := _) (p := 32 + g) (b := 0) (k7 _ M6) (by rw [sI_1, if_neg (by omega), sI_1, if_neg (by omega), sI_1, if_pos ⟨rfl, rfl⟩]) (by omega) (by rw [sI_1, if_neg (by omega), sI_1, if_pos ⟨rfl, rfl⟩]; rfl) (by omega) hU (eM_R (k8 _ f3 _ f5 _ f6))) rfl rfl rfl (fun _ _ => rfl) rfl (by exact cl_v my_228 rfl rfl rfl (Nat.le_of_ble_eq_true rfl) rfl (MH_obj rfl rfl) rfl (by decide) rfl rfl) (by rfl) (Nat.le_of_ble_eq_true rfl) (Nat.le_of_ble_eq_true rfl) rfl (fun v h1 d1 hq => ?_) (fun _ _ _ e => e.elim)
            rcases hq with ⟨hv, ⟨C8, ⟨l, i8, nl8, g8, g9, M8, g10, g11, g12, f8⟩, hh⟩, hn⟩ | ⟨hv, ⟨C8, ⟨c8, j8, g8, F8, g10, u8, g11, g12⟩, hh⟩, hn⟩
            · subst hv; subst hh; subst hn
              refine w_p (pc1 := 210) rfl rfl ?_
              refine w_m0 (pc1 := 213) rfl rfl (h_gC rfl rfl rfl rfl) rfl ?_
              refine w_p (pc1 := 214) rfl rfl ?_
              refine w_m0 (pc1 := 217) (st1 := .int (nI (32 + g)) :: _) rfl rfl (h_gIe (j := 40) rfl rfl rfl rfl rfl (g10.1)) rfl ?_
              refine w_p (pc1 := 218) rfl rfl ?_
              refine w_m0 (pc1 := 221) (st1 := .int (nI (0 + l.length)) :: _) rfl rfl (h_gIe (j := 41) rfl rfl rfl rfl rfl (g10.2)) rfl ?_
              refine w_m0 (pc1 := 222) rfl rfl (n_is (e := 32 + g) rfl rfl rfl (by omega)) rfl ?_
              refine w_p (pc1 := 295) rfl rfl ?_
              refine w_r rfl rfl rfl (fun _ _ => rfl) rfl ?_
              refine Or.inl ⟨rfl, ⟨_, ⟨_, _, _, by rw [pb_r (show xpP (tkP B n) 50 (i + 1 + 1) = .inr (i + 1 + 1 + 1) from if_pos g6), pb_r g8], g9, MS_I M8 (sx_h hU (by omega)) (by omega), ⟨?_, ?_, fun h => ?_, fun c l0 _ hc hs => ⟨?_, ?_, ?_⟩, fun h => ?_⟩, ?_⟩, rfl⟩, rfl⟩
              · rw [sI_1, if_neg (by omega), f8.1 100 g (by omega) (by omega) (by omega), sI_1, if_neg (by omega), sI_1, if_neg (by omega), sI_1, if_neg (by omega), f6.1 100 g (by omega), f5.1 100 g (by omega), sI_1, if_neg (by omega), f3.1 100 g (by omega), sI_1, if_pos ⟨rfl, rfl⟩]
                rfl
              · rw [sI_1, if_neg (by omega), f8.1 101 g (by omega) (by omega) (by omega), sI_1, if_neg (by omega), sI_1, if_neg (by omega), sI_1, if_neg (by omega), f6.1 101 g (by omega), f5.1 101 g (by omega), sI_1, if_neg (by omega), f3.1 101 g (by omega), sI_1, if_neg (by omega), sI_1, if_pos ⟨rfl, rfl⟩]
                rfl
              · exact absurd h (by show ¬ 3 < 3; decide)
              · cases hc
                rw [sI_1, if_neg (by omega), f8.1 102 g (by omega) (by omega) (by omega), sI_1, if_neg (by omega), sI_1, if_neg (by omega), sI_1, if_neg (by omega), f6.1 102 g (by omega), f5.1 102 g (by omega), sI_1, if_pos ⟨rfl, rfl⟩]
              · cases hs
                rw [sI_1, if_pos ⟨rfl, rfl⟩, Nat.zero_add]
              · cases hs
                exact foM_o g11 (fun j => by rw [sI_1, if_neg (by omega)]) (fun _ => rfl)
              · exact absurd h (by show ¬ 3 = 4; decide)
              · exact fBy_t (fBy_I (by omega)) (fBy_t (fBy_I (by omega)) (fBy_t (fBy_T f3) (fBy_t (fBy_I (by omega)) (fBy_t (fBy_T f5) (fBy_t (fBy_T f6) (fBy_t (fBy_A (frA_F (by omega))) (fBy_t (fBy_A (frA_F (by omega))) (fBy_t (fBy_A (frA_F (by omega))) (fBy_t (fBy_A (frA_H (fHy_G f8))) (fBy_A (frA_I (by omega))))))))))))
            · subst hv; subst hh; subst hn
              refine w_p (pc1 := 210) rfl rfl ?_
              refine w_m0 (pc1 := 213) rfl rfl (h_gC rfl rfl rfl rfl) rfl ?_
              refine w_p (pc1 := 214) rfl rfl ?_
              refine w_m0 (pc1 := 217) (st1 := .int (nI (32 + g)) :: _) rfl rfl (h_gIe (j := 40) rfl rfl rfl rfl rfl (g10)) rfl ?_
              refine w_p (pc1 := 218) rfl rfl ?_
              refine w_m0 (pc1 := 221) (st1 := .int (nI (u8)) :: _) rfl rfl (h_gIe (j := 41) rfl rfl rfl rfl rfl (g11)) rfl ?_
              refine w_m0 (pc1 := 222) rfl rfl (n_is (e := 32 + g) rfl rfl rfl (by omega)) rfl ?_
              refine w_p (pc1 := 295) rfl rfl ?_
              refine w_r rfl rfl rfl (fun _ _ => rfl) rfl ?_
              refine Or.inr ⟨rfl, ⟨_, ⟨c8, j8, ?_, FS_I F8 (sx_h hU (by omega)) (by omega)⟩, rfl⟩, rfl⟩
              rw [pb_r (show xpP (tkP B n) 50 (i + 1 + 1) = .inr (i + 1 + 1 + 1) from if_pos g6)]
              exact flS_c g8 (fun a _ _ => Or.inr ⟨_, rfl, rfl⟩)
          · subst hv; subst hh; subst hn
            refine w_p (pc1 := 181) rfl rfl ?_
            refine w_m0 (pc1 := 184) rfl rfl (h_gI (j := 8) rfl rfl rfl rfl rfl) rfl ?_
            refine w_t (a := 295) (b := 187) (cb_ne_t (by exact FS_0 F6)) rfl rfl ?_
            refine w_r rfl rfl rfl (fun _ _ => rfl) rfl ?_
            refine Or.inr ⟨rfl, ⟨_, ⟨c6, j6, flS_b g6 (fun a ha hk => ?_), F6⟩, rfl⟩, rfl⟩
            obtain ⟨hk4, rfl⟩ := xpP_s ha
            obtain ⟨m, hm1, hm2, hm3⟩ := M5.2.2.2.2.1.2
            exact bdS_b (bdS_f rfl hm1 hm2 (st1 hm1 hm3 hk4 (by decide) (by decide)) hk (Or.inl rfl))
        · subst hv; subst hh; subst hn
          refine w_p (pc1 := 175) rfl rfl ?_
          refine w_p (pc1 := 177) (st1 := .int 61 :: _) rfl rfl ?_
          refine w_je (pc1 := 180) (vs := [.ref 176, .int 61]) (rest := []) (st1 := []) (m_209f (d := _) F5) rfl rfl rfl (fun _ _ => rfl) rfl (by exact cl_v my_209 rfl rfl rfl (Nat.le_of_ble_eq_true rfl) rfl (MH_obj rfl rfl) rfl (by decide) rfl rfl) (by rfl) (Nat.le_of_ble_eq_true rfl) (Nat.le_of_ble_eq_true rfl) rfl (by rfl) ?_
          refine w_p (pc1 := 181) rfl rfl ?_
          refine w_m0 (pc1 := 184) rfl rfl (h_gI (j := 8) rfl rfl rfl rfl rfl) rfl ?_
          refine w_t (a := 295) (b := 187) (cb_ne_t (by exact FS_0 F5)) rfl rfl ?_
          refine w_r rfl rfl rfl (fun _ _ => rfl) rfl ?_
          exact Or.inr ⟨rfl, ⟨_, ⟨1, i + 1 + 1, flS_1 (bdS_b (bdS_x g5 (by decide))) g5, F5⟩, rfl⟩, rfl⟩
      · subst hv; subst hh; subst hn
        refine w_p (pc1 := 127) rfl rfl ?_
        refine w_je (pc1 := 130) (vs := [.ref 176]) (rest := []) (st1 := [.int 0]) (m_207f (d := _) F3) rfl rfl rfl (fun _ _ => rfl) rfl (by exact cl_v my_207 rfl rfl rfl (Nat.le_of_ble_eq_true rfl) rfl (MH_obj rfl rfl) rfl (by decide) rfl rfl) (by rfl) (Nat.le_of_ble_eq_true rfl) (Nat.le_of_ble_eq_true rfl) rfl (by rfl) ?_
        refine w_f (a := 134) (b := 133) rfl rfl rfl ?_
        refine w_r rfl rfl rfl (fun _ _ => rfl) rfl ?_
        exact absurd h3 (by rw [g3]; decide)
  · have hy : rCol (tkP B n) sc pp.1 [] (i + 1) = .inl (2, i + 1) := rCol_2 h3
    refine w_p (pc1 := 1) rfl rfl ?_
    refine w_m0 (pc1 := 4) rfl rfl (h_gC rfl rfl rfl rfl) rfl ?_
    refine w_p (pc1 := 5) rfl rfl ?_
    refine w_p (pc1 := 6) (st1 := .int (-1) :: _) rfl rfl ?_
    refine w_m0 (pc1 := 7) rfl rfl (n_is (e := g) rfl rfl rfl (by omega)) rfl ?_
    refine w_p (pc1 := 8) rfl rfl ?_
    refine w_m0 (pc1 := 11) (st1 := .long 115923103347316 :: _) rfl rfl rfl rfl ?_
    refine w_je (pc1 := 14) (vs := [.ref 176, .long 115923103347316]) (rest := []) (st1 := [.int 0]) (m_205f (d := _) (sl := 0) ((wd_k (k := 18) M1.2.1 (by decide) (by decide)).trans (decide_eq_false (by rw [hk]; decide)))) rfl rfl rfl (fun _ _ => rfl) rfl (by exact cl_v my_205 rfl rfl rfl (Nat.le_of_ble_eq_true rfl) rfl (MH_obj rfl rfl) rfl (by decide) rfl rfl) (by rfl) (Nat.le_of_ble_eq_true rfl) (Nat.le_of_ble_eq_true rfl) rfl (by rfl) ?_
    refine w_f (a := 37) (b := 17) rfl rfl rfl ?_
    refine w_p (pc1 := 18) rfl rfl ?_
    refine w_m0 (pc1 := 21) (st1 := .long 129125580895333 :: _) rfl rfl rfl rfl ?_
    refine w_je (pc1 := 24) (vs := [.ref 176, .long 129125580895333]) (rest := []) (st1 := [.int 0]) (m_205f (d := _) (sl := 0) ((wd_k (k := 41) M1.2.1 (by decide) (by decide)).trans (decide_eq_false (by rw [hk]; decide)))) rfl rfl rfl (fun _ _ => rfl) rfl (by exact cl_v my_205 rfl rfl rfl (Nat.le_of_ble_eq_true rfl) rfl (MH_obj rfl rfl) rfl (by decide) rfl rfl) (by rfl) (Nat.le_of_ble_eq_true rfl) (Nat.le_of_ble_eq_true rfl) rfl (by rfl) ?_
    refine w_f (a := 37) (b := 27) rfl rfl rfl ?_
    refine w_p (pc1 := 28) rfl rfl ?_
    refine w_m0 (pc1 := 31) (st1 := .long 110386773062757 :: _) rfl rfl rfl rfl ?_
    refine w_je (pc1 := 34) (vs := [.ref 176, .long 110386773062757]) (rest := []) (st1 := [.int 0]) (m_205f (d := _) (sl := 0) ((wd_k (k := 15) M1.2.1 (by decide) (by decide)).trans (decide_eq_false (by rw [hk]; decide)))) rfl rfl rfl (fun _ _ => rfl) rfl (by exact cl_v my_205 rfl rfl rfl (Nat.le_of_ble_eq_true rfl) rfl (MH_obj rfl rfl) rfl (by decide) rfl rfl) (by rfl) (Nat.le_of_ble_eq_true rfl) (Nat.le_of_ble_eq_true rfl) rfl (by rfl) ?_
    refine w_t (a := 78) (b := 37) rfl rfl rfl ?_
    refine w_p (pc1 := 79) rfl rfl ?_
    refine w_m0 (pc1 := 82) (st1 := .long 7103860 :: _) rfl rfl rfl rfl ?_
    refine w_je (pc1 := 85) (vs := [.ref 176, .long 7103860]) (rest := []) (st1 := [.int 1]) (m_205t (d := _) (sl := 0) ((wd_k (k := 21) M1.2.1 (by decide) (by decide)).trans (decide_eq_true hk))) rfl rfl rfl (fun _ _ => rfl) rfl (by exact cl_v my_205 rfl rfl rfl (Nat.le_of_ble_eq_true rfl) rfl (MH_obj rfl rfl) rfl (by decide) rfl rfl) (by rfl) (Nat.le_of_ble_eq_true rfl) (Nat.le_of_ble_eq_true rfl) rfl (by rfl) ?_
    refine w_f (a := 225) (b := 88) rfl rfl rfl ?_
    refine w_p (pc1 := 89) rfl rfl ?_
    refine w_m0 (pc1 := 92) rfl rfl (h_gC rfl rfl rfl rfl) rfl ?_
    refine w_p (pc1 := 93) rfl rfl ?_
    refine w_p (pc1 := 94) (st1 := .int 3 :: _) rfl rfl ?_
    refine w_m0 (pc1 := 95) rfl rfl (n_is (e := g) rfl rfl rfl (by omega)) rfl ?_
    refine w_p (pc1 := 96) rfl rfl ?_
    refine w_m0 (pc1 := 99) rfl rfl (h_gC rfl rfl rfl rfl) rfl ?_
    refine w_p (pc1 := 100) rfl rfl ?_
    refine w_m0 (pc1 := 101) (st1 := .int (nI (ti)) :: _) rfl rfl (n_ile (e := g) rfl rfl rfl (by omega) (e98)) rfl ?_
    refine w_p (pc1 := 102) (st1 := .int 1 :: _) rfl rfl ?_
    refine w_f (a := 115) (b := 105) (bN_eq_f (a := ti) (b := 1) (by omega) (by omega) (by omega)) rfl rfl ?_
    refine w_p (pc1 := 106) rfl rfl ?_
    refine w_m0 (pc1 := 109) rfl rfl (h_gC rfl rfl rfl rfl) rfl ?_
    refine w_p (pc1 := 110) rfl rfl ?_
    refine w_m0 (pc1 := 111) (st1 := .int (nI (pp.2)) :: _) rfl rfl (n_ile (e := g) rfl rfl rfl (by omega) (e99)) rfl ?_
    refine w_p (pc1 := 112) (st1 := .int 2 :: _) rfl rfl ?_
    refine w_t (a := 122) (b := 115) (bN_ne_t (a := pp.2) (b := 2) (by omega) (by omega) (by omega)) rfl rfl ?_
    refine w_p (pc1 := 123) rfl rfl ?_
    refine w_ji (pc1 := 126) (vs := [.ref 176]) (rest := []) (nS (d := _) M2 (by rw [hk]; decide)) rfl rfl rfl (fun _ _ => rfl) rfl (by exact cl_v my_195 rfl rfl rfl (Nat.le_of_ble_eq_true rfl) rfl (MH_obj rfl rfl) rfl (by decide) rfl rfl) (by rfl) (Nat.le_of_ble_eq_true rfl) (Nat.le_of_ble_eq_true rfl) rfl (fun v h1 d1 hq => ?_) (fun _ _ _ e => e.elim)
    rcases hq with ⟨hv, ⟨C3, ⟨g3, M3, f3⟩, hh⟩, hn⟩ | ⟨hv, ⟨C3, ⟨g3, F3, f3⟩, hh⟩, hn⟩
    · subst hv; subst hh; subst hn
      refine w_p (pc1 := 127) rfl rfl ?_
      refine w_je (pc1 := 130) (vs := [.ref 176]) (rest := []) (st1 := [.int 0]) (m_207n (d := _) M3 h3) rfl rfl rfl (fun _ _ => rfl) rfl (by exact cl_v my_207 rfl rfl rfl (Nat.le_of_ble_eq_true rfl) rfl (MH_obj rfl rfl) rfl (by decide) rfl rfl) (by rfl) (Nat.le_of_ble_eq_true rfl) (Nat.le_of_ble_eq_true rfl) rfl (by rfl) ?_
      refine w_f (a := 134) (b := 133) rfl rfl rfl ?_
      refine w_r rfl rfl rfl (fun _ _ => rfl) rfl ?_
      exact Or.inr ⟨rfl, ⟨_, ⟨2, i + 1, flS_n (pb_l hy) g3, FS_new M3 (by decide)⟩, rfl⟩, rfl⟩
    · subst hv; subst hh; subst hn
      refine w_p (pc1 := 127) rfl rfl ?_
      refine w_je (pc1 := 130) (vs := [.ref 176]) (rest := []) (st1 := [.int 0]) (m_207f (d := _) F3) rfl rfl rfl (fun _ _ => rfl) rfl (by exact cl_v my_207 rfl rfl rfl (Nat.le_of_ble_eq_true rfl) rfl (MH_obj rfl rfl) rfl (by decide) rfl rfl) (by rfl) (Nat.le_of_ble_eq_true rfl) (Nat.le_of_ble_eq_true rfl) rfl (by rfl) ?_
      refine w_f (a := 134) (b := 133) rfl rfl rfl ?_
      refine w_r rfl rfl rfl (fun _ _ => rfl) rfl ?_
      exact Or.inr ⟨rfl, ⟨_, ⟨1, i + 1, flS_1 (bdS_b (bdS_c g3)) g3, F3⟩, rfl⟩, rfl⟩
set_option maxRecDepth 100000 in
theorem m_239 (hg : g < 8) (hU : U (32 + g)) (M : MS B n U V C0 C i nl) (R : RXM C sc none (some pp)) (S : SCM C sc) (h97 : C.1 97 g = nI pp.1) (h98 : C.1 98 g = nI ti) (h99 : C.1 99 g = nI pp.2) (hti : ti < 2) (hev : pp.2 < 3) : Wd L xs (d + 11) y_239 (0, [(0, .ref 176), (1, .int (nI g))], [], MH C t, 0) (PAC B n U V C0 C t g (rAct (tkP B n) sc pp ti i nl)) nX := by
  by_cases h18 : kd B n i = 18
  · exact m_239_18 hg hU M R S h18
  by_cases h41 : kd B n i = 41
  · exact m_239_41 hg hU M R S h41
  by_cases h15 : kd B n i = 15
  · exact m_239_15 hg hU M R S h15
  by_cases h21 : kd B n i = 21
  · exact m_239_21 hg hU M R h97 h98 h99 hti hev h21
  by_cases h32 : kd B n i = 32
  · exact m_239_32 hg hU M h32
  exact m_239_n hg hU M h18 h41 h15 h21 h32
end MSL
