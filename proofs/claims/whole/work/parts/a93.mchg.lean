
/-! THE OTHER SIDE READS STATEMENTS, 8: a change -/
section MSD
variable {L : Nat} {xs : Nat → Int32} {B : Nat → Nat} {n : Nat} {C C' C0 C1 : co_T} {t : ab_H} {d i i0 i1 j b e p k w q : Nat} {U V : Nat → Prop} {c : Int32} {sc : sc_T} {row : Option Nat} {tg : Option (Nat × Nat)} {nl : Option Nat} {E : fe_T} {tr : Nat → Option tr_T}
def PCG (B : Nat → Nat) (n : Nat) (U V : Nat → Prop) (C0 C : co_T) (t : ab_H) (p : Nat) (r : pz_T (ac_T × Nat × Option Nat)) : Option Value → ab_H → Nat → Prop := fun v h m => (none = v ∧ (∃ C', (∃ a i' nl', r = .inr (a, i', nl') ∧ kd B n i' ≠ 1 ∧ MS B n U V C0 C' i' nl' ∧ ACM C' p a ∧ frA p C C') ∧ MH C' t = h) ∧ 0 = m) ∨ (none = v ∧ (∃ C', (∃ c j, flS B n (fun x : ac_T × Nat × Option Nat => x.2.1) r c j ∧ FS B n U V C0 C' c j) ∧ MH C' t = h) ∧ 0 = m)
def chC (C : co_T) (p : Nat) (e : Int32) : co_T := sI (sI (sI (sI C 76 40 (nI p)) 76 41 0) 112 p (-1)) 110 p e
set_option maxRecDepth 100000 in
theorem chC_A {v : Int32} : frA p C (chC C p v) := frA_t (frA_t (frA_t (frA_F (by omega)) (frA_F (by omega))) (frA_I (by omega))) (frA_I (by omega))
set_option maxRecDepth 100000 in
theorem chC_M {v : Int32} (hU : U p) (M : MS B n U V C0 C i nl) : MS B n U V C0 (chC C p v) i nl := MS_I (MS_I (MS_I (MS_I M (sx_76 (by omega)) (by omega)) (sx_76 (by omega)) (by omega)) (sx_h hU (by omega)) (by omega)) (sx_h hU (by omega)) (by omega)
set_option maxRecDepth 100000 in
theorem chC_v {v : Int32} : (chC C p v).1 76 40 = nI p ∧ (chC C p v).1 76 41 = 0 ∧ (chC C p v).1 112 p = -1 ∧ (chC C p v).1 110 p = v ∧ (chC C p v).1 76 46 = C.1 76 46 := by
  unfold chC
  refine ⟨?_, ?_, ?_, ?_, ?_⟩
  · rw [sI_1, if_neg (by omega), sI_1, if_neg (by omega), sI_1, if_neg (by omega), sI_1, if_pos ⟨rfl, rfl⟩]
  · rw [sI_1, if_neg (by omega), sI_1, if_neg (by omega), sI_1, if_pos ⟨rfl, rfl⟩]
  · rw [sI_1, if_neg (by omega), sI_1, if_pos ⟨rfl, rfl⟩]
  · rw [sI_1, if_pos ⟨rfl, rfl⟩]
  · rw [sI_1, if_neg (by omega), sI_1, if_neg (by omega), sI_1, if_neg (by omega), sI_1, if_neg (by omega)]
set_option maxRecDepth 100000 in
theorem chC_2 {C2 C3 : co_T} {v : Int32} (R : RXM C sc none tg) (S : SCM C sc) (f1 : frT (chC C p v) C2) (f2 : frT C2 C3) : (C3.1 76 40 = nI p ∧ C3.1 76 41 = 0 ∧ C3.1 112 p = -1 ∧ C3.1 110 p = v) ∧ RXM C3 sc none tg ∧ SCM C3 sc ∧ frA p C C3 := by
  have f := frT_t f1 f2
  have g := chC_v (C := C) (p := p) (v := v)
  exact ⟨⟨(f.1 76 40 (by omega)).trans g.1, (f.1 76 41 (by omega)).trans g.2.1, (f.1 112 p (by omega)).trans g.2.2.1, (f.1 110 p (by omega)).trans g.2.2.2.1⟩, RXM_T (RXM_A R chC_A g.2.2.2.2) f, SCM_T (SCM_A S chC_A) f, frA_t chC_A (frA_T f)⟩
set_option maxRecDepth 100000 in
theorem rEvt_e {k : Nat} (hk : kd B n i = k) (he : evt k = some e) : rEvt (tkP B n) i = .inr (e, i + 1) := by
  unfold rEvt
  show (match evt (kd B n i) with
    | none => _
    | some e => _) = _
  rw [hk, he]
set_option maxRecDepth 100000 in
theorem bd_chg {e : Nat} (he : e < 3) (hb : kd B n i = 1) : bdS (if e = 0 then rIns (tkP B n) sc tg b i nl else pb (rUpd (tkP B n) sc tg e b i nl) (rWhr (tkP B n) sc tg e b)) i ∨ ∃ y : ac_T × Nat × Option Nat, (if e = 0 then rIns (tkP B n) sc tg b i nl else pb (rUpd (tkP B n) sc tg e b i nl) (rWhr (tkP B n) sc tg e b)) = .inr y ∧ y.2.1 = i := by
  by_cases h0 : e = 0
  · rw [if_pos h0, rIns_e]
    exact Or.inl (bdS_b (bdS_x hb (by decide)))
  · rw [if_neg h0]
    by_cases h1 : e = 1
    · unfold rUpd
      rw [if_pos h1]
      exact Or.inl (bdS_b (bdS_b (bdS_x hb (by decide))))
    · unfold rUpd
      rw [if_neg h1]
      refine Or.inr ⟨((e, some b, [], [], none, 0), i, nl), ?_, rfl⟩
      show rWhr (tkP B n) sc tg e b (([], []), i, nl) = _
      unfold rWhr
      rw [if_neg (by show ¬ kd B n i = 43; rw [hb]; decide)]
set_option maxRecDepth 100000 in
theorem rWhr_b {s : (List Nat × List (Option (List op_T))) × Nat × Option Nat} {e : Nat} (h : kd B n s.2.1 = 1) : rWhr (tkP B n) sc tg e b s = .inr ((e, some b, s.1.1, s.1.2, none, 0), s.2) := if_neg (by show ¬ kd B n s.2.1 = 43; rw [h]; decide)
set_option maxRecDepth 100000 in
theorem rIns_k {K : tv2} {a : ac_T} {i' : Nat} {nl' : Option Nat} (h : rIns K sc tg b i nl = .inr (a, i', nl')) : aKd a = 0 ∧ aTb a = some b := by
  rw [rIns_e] at h
  obtain ⟨j, _, h⟩ := pb_inr h
  obtain ⟨q, _, h⟩ := pb_inr h
  unfold pEnd at h
  split at h
  · split at h
    · cases h
      exact ⟨rfl, rfl⟩
    · cases h
  · cases h
variable {P : Option Value → ab_H → Nat → Prop} {x : Int32}
set_option maxRecDepth 100000 in
theorem m_240_18 (hU : U p) (hp4 : p ≤ 40) (M : MS B n U V C0 C i nl) (R : RXM C sc none tg) (S : SCM C sc) (hk : kd B n i = 18) : Wd L xs (d + 10) y_240 (0, [(0, .ref 176), (1, .int (nI p))], [], MH C t, 0) (PCG B n U V C0 C t p (rChg (tkP B n) sc tg i nl)) nX := by
  have M1 := chC_M (v := 0) hU M
  have hev := rEvt_e (e := 0) hk rfl
  unfold rChg
  rw [pb_r hev]
  refine w_p (pc1 := 1) rfl rfl ?_
  refine w_p (pc1 := 2) rfl rfl ?_
  refine w_m0 (pc1 := 5) rfl rfl (h_pI (j := 40) rfl rfl rfl rfl rfl rfl rfl ⟨rfl, rfl⟩ rfl) rfl ?_
  refine w_p (pc1 := 6) rfl rfl ?_
  refine w_p (pc1 := 7) (st1 := .int 0 :: _) rfl rfl ?_
  refine w_m0 (pc1 := 10) rfl rfl (h_pI (j := 41) rfl rfl rfl rfl rfl rfl rfl ⟨rfl, rfl⟩ rfl) rfl ?_
  refine w_p (pc1 := 11) rfl rfl ?_
  refine w_m0 (pc1 := 14) rfl rfl (h_gC rfl rfl rfl rfl) rfl ?_
  refine w_p (pc1 := 15) rfl rfl ?_
  refine w_p (pc1 := 16) (st1 := .int (-1) :: _) rfl rfl ?_
  refine w_m0 (pc1 := 17) rfl rfl (n_is (e := p) rfl rfl rfl (by omega)) rfl ?_
  refine w_p (pc1 := 18) rfl rfl ?_
  refine w_m0 (pc1 := 21) (st1 := .long 115923103347316 :: _) rfl rfl rfl rfl ?_
  refine w_je (pc1 := 24) (vs := [.ref 176, .long 115923103347316]) (rest := []) (st1 := [.int 1]) (m_205t (d := _) (sl := 0) ((wd_k (k := 18) (MS_I (MS_I (MS_I M (sx_76 (U := U) (V := V) (j := 40) (by omega)) (by omega)) (sx_76 (U := U) (V := V) (j := 41) (by omega)) (by omega)) (sx_h (V := V) (k := 112) hU (by omega)) (by omega)).2.1 (by decide) (by decide)).trans (decide_eq_true hk))) rfl rfl rfl (fun _ _ => rfl) rfl (by exact cl_v my_205 rfl rfl rfl (Nat.le_of_ble_eq_true rfl) rfl (MH_obj rfl rfl) rfl (by decide) rfl rfl) (by rfl) (Nat.le_of_ble_eq_true rfl) (Nat.le_of_ble_eq_true rfl) rfl (by rfl) ?_
  refine w_p (pc1 := 25) (al1 := [(2, .int 1), (0, .ref 176), (1, .int (nI (p)))]) rfl rfl ?_
  refine w_p (pc1 := 26) rfl rfl ?_
  refine w_m0 (pc1 := 29) rfl rfl (h_gC rfl rfl rfl rfl) rfl ?_
  refine w_p (pc1 := 30) rfl rfl ?_
  refine w_p (pc1 := 31) rfl rfl ?_
  refine w_f (a := 38) (b := 34) rfl rfl rfl ?_
  refine w_p (pc1 := 35) (st1 := .int 0 :: _) rfl rfl ?_
  refine w_p (pc1 := 53) rfl rfl ?_
  refine w_m0 (pc1 := 54) rfl rfl (n_is (e := p) rfl rfl rfl (by omega)) rfl ?_
  refine w_p (pc1 := 55) rfl rfl ?_
  refine w_ji (pc1 := 58) (vs := [.ref 176]) (rest := []) (nS (d := _) M1 (by rw [hk]; decide)) rfl rfl rfl (fun _ _ => rfl) rfl (by exact cl_v my_195 rfl rfl rfl (Nat.le_of_ble_eq_true rfl) rfl (MH_obj rfl rfl) rfl (by decide) rfl rfl) (by rfl) (Nat.le_of_ble_eq_true rfl) (Nat.le_of_ble_eq_true rfl) rfl (fun v h1 d1 hq => ?_) (fun _ _ _ e => e.elim)
  rcases hq with ⟨hv, ⟨C2, ⟨g2, M2, f2⟩, hh⟩, hn⟩ | ⟨hv, ⟨C2, ⟨g2, F2, f2⟩, hh⟩, hn⟩
  · subst hv; subst hh; subst hn
    refine w_p (pc1 := 59) rfl rfl ?_
    refine w_ji (pc1 := 62) (vs := [.ref 176]) (rest := []) (m_238 (d := _) M2 (SCM_T (SCM_A S chC_A) f2)) rfl rfl rfl (fun _ _ => rfl) rfl (by exact cl_v my_238 rfl rfl rfl (Nat.le_of_ble_eq_true rfl) rfl (MH_obj rfl rfl) rfl (by decide) rfl rfl) (by rfl) (Nat.le_of_ble_eq_true rfl) (Nat.le_of_ble_eq_true rfl) rfl (fun v h1 d1 hq => ?_) (fun _ _ _ e => e.elim)
    rcases hq with ⟨b, hv, ⟨C3, ⟨g3, g4, g5, M3, f3⟩, hh⟩, hn⟩ | ⟨b, hv, ⟨C3, ⟨c3, j3, g3, F3, f3⟩, hh⟩, hn⟩
    · subst hv; subst hh; subst hn
      refine w_p (pc1 := 63) (al1 := [(3, .int (nI (b))), (2, .int 1), (0, .ref 176), (1, .int (nI (p)))]) rfl rfl ?_
      refine w_p (pc1 := 64) rfl rfl ?_
      refine w_m0 (pc1 := 67) rfl rfl (h_gC rfl rfl rfl rfl) rfl ?_
      refine w_p (pc1 := 68) rfl rfl ?_
      refine w_p (pc1 := 69) rfl rfl ?_
      refine w_m0 (pc1 := 70) rfl rfl (n_is (e := p) rfl rfl rfl (by omega)) rfl ?_
      refine w_p (pc1 := 71) rfl rfl ?_
      refine w_m0 (pc1 := 74) rfl rfl (h_gI (j := 8) rfl rfl rfl rfl rfl) rfl ?_
      refine w_f (a := 89) (b := 77) (cb_ne_f (by exact M3.2.1.2.1)) rfl rfl ?_
      refine w_p (pc1 := 78) rfl rfl ?_
      refine w_f (a := 89) (b := 81) rfl rfl rfl ?_
      refine w_p (pc1 := 82) rfl rfl ?_
      refine w_p (pc1 := 83) rfl rfl ?_
      refine w_ji (pc1 := 86) (vs := [.ref 176, .int (nI (b))]) (rest := []) (m_241 (d := _) hU hp4 (MS_I (v := nI b) M3 (sx_h (p := p) (k := 111) hU (by omega)) (by omega)) (RXM_A (chC_2 R S f2 f3).2.1 (frA_I (p := p) (by omega)) (by rw [sI_1, if_neg (by omega)])) (chC_2 R S f2 f3).1.1 (chC_2 R S f2 f3).1.2.1 (TBM_o (TBM_S (chC_2 R S f2 f3).2.2.1 g4.1 g4.2) (fun j => by rw [sI_1, if_neg (by omega)]) (fun _ => rfl))) rfl rfl rfl (fun _ _ => rfl) rfl (by exact cl_v my_241 rfl rfl rfl (Nat.le_of_ble_eq_true rfl) rfl (MH_obj rfl rfl) rfl (by decide) rfl rfl) (by rfl) (Nat.le_of_ble_eq_true rfl) (Nat.le_of_ble_eq_true rfl) rfl (fun v h1 d1 hq => ?_) (fun _ _ _ e => e.elim)
      rcases hq with ⟨hv, ⟨C5, ⟨a, i5, nl5, g5, g6, M5, I5, f5⟩, hh⟩, hn⟩ | ⟨hv, ⟨C5, ⟨c5, j5, g5, F5⟩, hh⟩, hn⟩
      · subst hv; subst hh; subst hn
        refine w_p (pc1 := 151) rfl rfl ?_
        refine w_p (pc1 := 152) rfl rfl ?_
        refine w_m0 (pc1 := 155) rfl rfl (h_gC rfl rfl rfl rfl) rfl ?_
        refine w_p (pc1 := 156) rfl rfl ?_
        refine w_p (pc1 := 157) rfl rfl ?_
        refine w_m0 (pc1 := 160) (st1 := .int (nI ((pIt 0 (aSs a)).length)) :: _) rfl rfl (h_gIe (j := 41) rfl rfl rfl rfl rfl (I5.2.1)) rfl ?_
        refine w_m0 (pc1 := 161) rfl rfl (n_is (e := p) rfl rfl rfl (by omega)) rfl ?_
        refine w_r rfl rfl rfl (fun _ _ => rfl) rfl ?_
        have k3 := chC_2 R S f2 f3
        have hi5 := MS_6 M5
        have hl5 : (pIt 0 (aSs a)).length ≤ i5 + 1 + 1 := I5.2.2.2
        rw [pb_r g3]
        obtain ⟨hq1, hq2⟩ := rIns_k g5
        refine Or.inl ⟨rfl, ⟨_, ⟨a, i5, nl5, g5, g6, MS_I M5 (sx_h hU (by omega)) (by omega), ⟨?_, ?_, fun _ => ⟨?_, ?_, ?_⟩, fun h => ?_, fun h => ?_⟩, ?_⟩, rfl⟩, rfl⟩
        · rw [sI_1, if_neg (by omega), f5.1 110 p (by omega) (by omega) (by omega), sI_1, if_neg (by omega), sI_1, if_neg (by omega), hq1]
          exact k3.1.2.2.2
        · rw [sI_1, if_neg (by omega), f5.1 111 p (by omega) (by omega) (by omega), sI_1, if_neg (by omega), sI_1, if_pos ⟨rfl, rfl⟩, hq2]
          rfl
        · rw [sI_1, if_pos ⟨rfl, rfl⟩]
        · omega
        · exact itM_o I5.2.2.1 (fun j => by rw [sI_1, if_neg (by omega)]) (fun _ => rfl)
        · rw [hq1] at h
          cases h
        · rw [hq1] at h
          cases h
        · exact frA_t k3.2.2.2 (frA_t (frA_I (k := 111) (by omega)) (frA_t (frA_F (by omega)) (frA_t (frA_H f5) (frA_I (k := 113) (by omega)))))
      · subst hv; subst hh; subst hn
        refine w_p (pc1 := 151) rfl rfl ?_
        rw [pb_r g3]
        exact e240X F5 hU hp4 (fun C9 F9 => Or.inr ⟨rfl, ⟨_, ⟨c5, j5, g5, F9⟩, rfl⟩, rfl⟩)
    · subst hv; subst hh; subst hn
      refine w_p (pc1 := 63) (al1 := [(3, .int (nI (b))), (2, .int 1), (0, .ref 176), (1, .int (nI (p)))]) rfl rfl ?_
      refine w_p (pc1 := 64) rfl rfl ?_
      refine w_m0 (pc1 := 67) rfl rfl (h_gC rfl rfl rfl rfl) rfl ?_
      refine w_p (pc1 := 68) rfl rfl ?_
      refine w_p (pc1 := 69) rfl rfl ?_
      refine w_m0 (pc1 := 70) rfl rfl (n_is (e := p) rfl rfl rfl (by omega)) rfl ?_
      refine w_p (pc1 := 71) rfl rfl ?_
      refine w_m0 (pc1 := 74) rfl rfl (h_gI (j := 8) rfl rfl rfl rfl rfl) rfl ?_
      refine w_t (a := 89) (b := 77) (cb_ne_t (by exact FS_0 (FS_I (v := nI b) F3 (sx_h (p := p) (k := 111) hU (by omega)) (by omega)))) rfl rfl ?_
      refine w_p (pc1 := 90) rfl rfl ?_
      refine w_m0 (pc1 := 93) rfl rfl (h_gI (j := 8) rfl rfl rfl rfl rfl) rfl ?_
      refine w_t (a := 151) (b := 96) (cb_ne_t (by exact FS_0 (FS_I (v := nI b) F3 (sx_h (p := p) (k := 111) hU (by omega)) (by omega)))) rfl rfl ?_
      exact e240X (FS_I F3 (sx_h hU (by omega)) (by omega)) hU hp4 (fun C9 F9 => Or.inr ⟨rfl, ⟨_, ⟨c3, j3, flS_c g3 (fun a _ hk => bd_chg (e := 0) (by decide) hk), F9⟩, rfl⟩, rfl⟩)
  · subst hv; subst hh; subst hn
    refine w_p (pc1 := 59) rfl rfl ?_
    refine w_je (pc1 := 62) (vs := [.ref 176]) (rest := []) (st1 := [.int (nI (0))]) (m_238f (d := _) F2) rfl rfl rfl (fun _ _ => rfl) rfl (by exact cl_v my_238 rfl rfl rfl (Nat.le_of_ble_eq_true rfl) rfl (MH_obj rfl rfl) rfl (by decide) rfl rfl) (by rfl) (Nat.le_of_ble_eq_true rfl) (Nat.le_of_ble_eq_true rfl) rfl (by rfl) ?_
    refine w_p (pc1 := 63) (al1 := [(3, .int (nI (0))), (2, .int 1), (0, .ref 176), (1, .int (nI (p)))]) rfl rfl ?_
    refine w_p (pc1 := 64) rfl rfl ?_
    refine w_m0 (pc1 := 67) rfl rfl (h_gC rfl rfl rfl rfl) rfl ?_
    refine w_p (pc1 := 68) rfl rfl ?_
    refine w_p (pc1 := 69) rfl rfl ?_
    refine w_m0 (pc1 := 70) rfl rfl (n_is (e := p) rfl rfl rfl (by omega)) rfl ?_
    refine w_p (pc1 := 71) rfl rfl ?_
    refine w_m0 (pc1 := 74) rfl rfl (h_gI (j := 8) rfl rfl rfl rfl rfl) rfl ?_
    refine w_t (a := 89) (b := 77) (cb_ne_t (by exact FS_0 (FS_I (v := nI 0) F2 (sx_h (p := p) (k := 111) hU (by omega)) (by omega)))) rfl rfl ?_
    refine w_p (pc1 := 90) rfl rfl ?_
    refine w_m0 (pc1 := 93) rfl rfl (h_gI (j := 8) rfl rfl rfl rfl rfl) rfl ?_
    refine w_t (a := 151) (b := 96) (cb_ne_t (by exact FS_0 (FS_I (v := nI 0) F2 (sx_h (p := p) (k := 111) hU (by omega)) (by omega)))) rfl rfl ?_
    exact e240X (b := 0) (FS_I F2 (sx_h hU (by omega)) (by omega)) hU hp4 (fun C9 F9 => Or.inr ⟨rfl, ⟨_, ⟨1, i + 1, flS_1 (bdS_b (bdS_t g2)) g2, F9⟩, rfl⟩, rfl⟩)
set_option maxRecDepth 100000 in
theorem m_240_41 (hU : U p) (hp4 : p ≤ 40) (M : MS B n U V C0 C i nl) (R : RXM C sc none tg) (S : SCM C sc) (hk : kd B n i = 41) : Wd L xs (d + 10) y_240 (0, [(0, .ref 176), (1, .int (nI p))], [], MH C t, 0) (PCG B n U V C0 C t p (rChg (tkP B n) sc tg i nl)) nX := by
  have M1 := chC_M (v := 1) hU M
  have hev := rEvt_e (e := 1) hk rfl
  unfold rChg
  rw [pb_r hev]
  have R4 : ∀ C2 C3 : co_T, frT (chC C p 1) C2 → frT C2 C3 → ∀ {b : Nat}, b < 6 → sc.1 b ≠ 0 → RXM (sI (sI C3 111 p (nI b)) 76 46 (nI b)) sc (some b) tg := by
    intro C2 C3 f2 f3 b hb6 hbz
    have k3 := chC_2 R S f2 f3
    have e8 : ∀ j, (sI (sI C3 111 p (nI b)) 76 46 (nI b)).1 80 j = C3.1 80 j := fun j => by rw [sI_1, if_neg (by omega), sI_1, if_neg (by omega)]
    have e6 : ∀ j, 47 ≤ j → (sI (sI C3 111 p (nI b)) 76 46 (nI b)).1 76 j = C3.1 76 j := fun j hj => by rw [sI_1, if_neg (by omega), sI_1, if_neg (by omega)]
    obtain ⟨h1, h2, h3, h4, h5⟩ := k3.2.1
    refine ⟨by rw [sI_1, if_pos ⟨rfl, rfl⟩]; rfl, (e6 47 (by omega)).trans h2, ?_, fun q hq => ?_, fun q hq => ?_⟩
    · rw [e6 48 (by omega), e6 49 (by omega)]
      exact h3
    · cases hq
      exact TBM_o (TBM_S k3.2.2.1 hb6 hbz) e8 (fun _ => rfl)
    · rw [e6 48 (by omega), e6 49 (by omega)]
      exact ⟨TBM_o (h5 q hq).1 e8 (fun _ => rfl), (h5 q hq).2⟩
  refine w_p (pc1 := 1) rfl rfl ?_
  refine w_p (pc1 := 2) rfl rfl ?_
  refine w_m0 (pc1 := 5) rfl rfl (h_pI (j := 40) rfl rfl rfl rfl rfl rfl rfl ⟨rfl, rfl⟩ rfl) rfl ?_
  refine w_p (pc1 := 6) rfl rfl ?_
  refine w_p (pc1 := 7) (st1 := .int 0 :: _) rfl rfl ?_
  refine w_m0 (pc1 := 10) rfl rfl (h_pI (j := 41) rfl rfl rfl rfl rfl rfl rfl ⟨rfl, rfl⟩ rfl) rfl ?_
  refine w_p (pc1 := 11) rfl rfl ?_
  refine w_m0 (pc1 := 14) rfl rfl (h_gC rfl rfl rfl rfl) rfl ?_
  refine w_p (pc1 := 15) rfl rfl ?_
  refine w_p (pc1 := 16) (st1 := .int (-1) :: _) rfl rfl ?_
  refine w_m0 (pc1 := 17) rfl rfl (n_is (e := p) rfl rfl rfl (by omega)) rfl ?_
  refine w_p (pc1 := 18) rfl rfl ?_
  refine w_m0 (pc1 := 21) (st1 := .long 115923103347316 :: _) rfl rfl rfl rfl ?_
  refine w_je (pc1 := 24) (vs := [.ref 176, .long 115923103347316]) (rest := []) (st1 := [.int 0]) (m_205f (d := _) (sl := 0) ((wd_k (k := 18) (MS_I (MS_I (MS_I M (sx_76 (U := U) (V := V) (j := 40) (by omega)) (by omega)) (sx_76 (U := U) (V := V) (j := 41) (by omega)) (by omega)) (sx_h (V := V) (k := 112) hU (by omega)) (by omega)).2.1 (by decide) (by decide)).trans (decide_eq_false (by rw [hk]; decide)))) rfl rfl rfl (fun _ _ => rfl) rfl (by exact cl_v my_205 rfl rfl rfl (Nat.le_of_ble_eq_true rfl) rfl (MH_obj rfl rfl) rfl (by decide) rfl rfl) (by rfl) (Nat.le_of_ble_eq_true rfl) (Nat.le_of_ble_eq_true rfl) rfl (by rfl) ?_
  refine w_p (pc1 := 25) (al1 := [(2, .int 0), (0, .ref 176), (1, .int (nI (p)))]) rfl rfl ?_
  refine w_p (pc1 := 26) rfl rfl ?_
  refine w_m0 (pc1 := 29) rfl rfl (h_gC rfl rfl rfl rfl) rfl ?_
  refine w_p (pc1 := 30) rfl rfl ?_
  refine w_p (pc1 := 31) rfl rfl ?_
  refine w_t (a := 38) (b := 34) rfl rfl rfl ?_
  refine w_p (pc1 := 39) rfl rfl ?_
  refine w_m0 (pc1 := 42) (st1 := .long 129125580895333 :: _) rfl rfl rfl rfl ?_
  refine w_je (pc1 := 45) (vs := [.ref 176, .long 129125580895333]) (rest := [.int (nI (p)), .ref 210]) (st1 := [.int 1, .int (nI (p)), .ref 210]) (m_205t (d := _) (sl := 0) ((wd_k (k := 41) (MS_I (MS_I (MS_I M (sx_76 (U := U) (V := V) (j := 40) (by omega)) (by omega)) (sx_76 (U := U) (V := V) (j := 41) (by omega)) (by omega)) (sx_h (V := V) (k := 112) hU (by omega)) (by omega)).2.1 (by decide) (by decide)).trans (decide_eq_true hk))) rfl rfl rfl (fun _ _ => rfl) rfl (by exact cl_v my_205 rfl rfl rfl (Nat.le_of_ble_eq_true rfl) rfl (MH_obj rfl rfl) rfl (by decide) rfl rfl) (by rfl) (Nat.le_of_ble_eq_true rfl) (Nat.le_of_ble_eq_true rfl) rfl (by rfl) ?_
  refine w_f (a := 52) (b := 48) rfl rfl rfl ?_
  refine w_p (pc1 := 49) (st1 := .int 1 :: _) rfl rfl ?_
  refine w_p (pc1 := 53) rfl rfl ?_
  refine w_m0 (pc1 := 54) rfl rfl (n_is (e := p) rfl rfl rfl (by omega)) rfl ?_
  refine w_p (pc1 := 55) rfl rfl ?_
  refine w_ji (pc1 := 58) (vs := [.ref 176]) (rest := []) (nS (d := _) M1 (by rw [hk]; decide)) rfl rfl rfl (fun _ _ => rfl) rfl (by exact cl_v my_195 rfl rfl rfl (Nat.le_of_ble_eq_true rfl) rfl (MH_obj rfl rfl) rfl (by decide) rfl rfl) (by rfl) (Nat.le_of_ble_eq_true rfl) (Nat.le_of_ble_eq_true rfl) rfl (fun v h1 d1 hq => ?_) (fun _ _ _ e => e.elim)
  rcases hq with ⟨hv, ⟨C2, ⟨g2, M2, f2⟩, hh⟩, hn⟩ | ⟨hv, ⟨C2, ⟨g2, F2, f2⟩, hh⟩, hn⟩
  · subst hv; subst hh; subst hn
    refine w_p (pc1 := 59) rfl rfl ?_
    refine w_ji (pc1 := 62) (vs := [.ref 176]) (rest := []) (m_238 (d := _) M2 (SCM_T (SCM_A S chC_A) f2)) rfl rfl rfl (fun _ _ => rfl) rfl (by exact cl_v my_238 rfl rfl rfl (Nat.le_of_ble_eq_true rfl) rfl (MH_obj rfl rfl) rfl (by decide) rfl rfl) (by rfl) (Nat.le_of_ble_eq_true rfl) (Nat.le_of_ble_eq_true rfl) rfl (fun v h1 d1 hq => ?_) (fun _ _ _ e => e.elim)
    rcases hq with ⟨b, hv, ⟨C3, ⟨g3, g4, g5, M3, f3⟩, hh⟩, hn⟩ | ⟨b, hv, ⟨C3, ⟨c3, j3, g3, F3, f3⟩, hh⟩, hn⟩
    · subst hv; subst hh; subst hn
      refine w_p (pc1 := 63) (al1 := [(3, .int (nI (b))), (2, .int 0), (0, .ref 176), (1, .int (nI (p)))]) rfl rfl ?_
      refine w_p (pc1 := 64) rfl rfl ?_
      refine w_m0 (pc1 := 67) rfl rfl (h_gC rfl rfl rfl rfl) rfl ?_
      refine w_p (pc1 := 68) rfl rfl ?_
      refine w_p (pc1 := 69) rfl rfl ?_
      refine w_m0 (pc1 := 70) rfl rfl (n_is (e := p) rfl rfl rfl (by omega)) rfl ?_
      refine w_p (pc1 := 71) rfl rfl ?_
      refine w_m0 (pc1 := 74) rfl rfl (h_gI (j := 8) rfl rfl rfl rfl rfl) rfl ?_
      refine w_f (a := 89) (b := 77) (cb_ne_f (by exact M3.2.1.2.1)) rfl rfl ?_
      refine w_p (pc1 := 78) rfl rfl ?_
      refine w_t (a := 89) (b := 81) rfl rfl rfl ?_
      refine w_p (pc1 := 90) rfl rfl ?_
      refine w_m0 (pc1 := 93) rfl rfl (h_gI (j := 8) rfl rfl rfl rfl rfl) rfl ?_
      refine w_f (a := 151) (b := 96) (cb_ne_f (by exact M3.2.1.2.1)) rfl rfl ?_
      refine w_p (pc1 := 97) rfl rfl ?_
      refine w_p (pc1 := 98) rfl rfl ?_
      refine w_m0 (pc1 := 101) rfl rfl (h_pI (j := 46) rfl rfl rfl rfl rfl rfl rfl ⟨rfl, rfl⟩ rfl) rfl ?_
      refine w_p (pc1 := 102) rfl rfl ?_
      refine w_m0 (pc1 := 105) rfl rfl (h_gC rfl rfl rfl rfl) rfl ?_
      refine w_p (pc1 := 106) rfl rfl ?_
      refine w_m0 (pc1 := 107) (st1 := .int 1 :: _) rfl rfl (n_ile (e := p) rfl rfl rfl (by omega) ((chC_2 R S f2 f3).1.2.2.2)) rfl ?_
      refine w_p (pc1 := 108) (st1 := .int 1 :: _) rfl rfl ?_
      refine w_f (a := 116) (b := 111) rfl rfl rfl ?_
      refine w_p (pc1 := 112) rfl rfl ?_
      refine w_p (pc1 := 113) rfl rfl ?_
      refine w_ji (pc1 := 116) (vs := [.ref 176, .int (nI (b))]) (rest := []) (m_242 (d := _) hU hp4 (MS_I (v := nI b) (MS_I (v := nI b) M3 (sx_h (p := p) (k := 111) hU (by omega)) (by omega)) (sx_76 (j := 46) (by omega)) (by omega)) (R4 _ _ f2 f3 g4.1 g4.2) (chC_2 R S f2 f3).1.1 (chC_2 R S f2 f3).1.2.1) rfl rfl rfl (fun _ _ => rfl) rfl (by exact cl_v my_242 rfl rfl rfl (Nat.le_of_ble_eq_true rfl) rfl (MH_obj rfl rfl) rfl (by decide) rfl rfl) (by rfl) (Nat.le_of_ble_eq_true rfl) (Nat.le_of_ble_eq_true rfl) rfl (fun v h1 d1 hq => ?_) (fun _ _ _ e => e.elim)
      rcases hq with ⟨hv, ⟨C5, ⟨a, i5, nl5, g5, g6, M5, I5, f5⟩, hh⟩, hn⟩ | ⟨hv, ⟨C5, ⟨c5, j5, g5, F5⟩, hh⟩, hn⟩
      · subst hv; subst hh; subst hn
        have k3 := chC_2 R S f2 f3
        have R5 := RXM_H (R4 _ _ f2 f3 g4.1 g4.2) f5
        rw [pb_r g3]
        show Wd L xs _ _ _ (PCG B n U V C0 C t p (pb (rUpd (tkP B n) sc tg 1 b (i + 1 + 1) nl) (rWhr (tkP B n) sc tg 1 b))) _
        rw [pb_r g5, rWhr_e]
        refine Wd_q (e240W (d := d) (a := sIt a.1 a.2) hU hp4 M5 R5 I5 (by rw [f5.1 112 p (by omega) (by omega) (by omega), sI_1, if_neg (by omega), sI_1, if_neg (by omega)]; exact k3.1.2.2.1)) (fun v h m hq => ?_) (fun _ _ _ e => e)
        rcases hq with ⟨hv, ⟨C6, ⟨wh, i6, nl6, g7, g8, M6, g9, g10, f6, g11⟩, hh⟩, hn⟩ | ⟨hv, ⟨C6, ⟨c6, j6, g7, F6⟩, hh⟩, hn⟩
        · have hl5 : (sIt a.1 a.2).length ≤ i5 + 1 + 1 := I5.2.2.2
          have hi5 := MS_6 M5
          refine Or.inl ⟨hv, ⟨C6, ⟨(1, some b, a.1, a.2, wh, 0), i6, nl6, by rw [pb_r g7], g8, M6, ⟨?_, ?_, fun h => ?_, fun _ => ⟨?_, g10, g9⟩, fun h => ?_⟩, ?_⟩, hh⟩, hn⟩
          · rw [g11.1, f5.1 110 p (by omega) (by omega) (by omega), sI_1, if_neg (by omega), sI_1, if_neg (by omega)]
            exact k3.1.2.2.2
          · rw [g11.2, f5.1 111 p (by omega) (by omega) (by omega), sI_1, if_neg (by omega), sI_1, if_pos ⟨rfl, rfl⟩]
            rfl
          · cases h
          · show (sIt a.1 a.2).length ≤ 619
            omega
          · cases h
          · exact frA_t k3.2.2.2 (frA_t (frA_I (k := 111) (by omega)) (frA_t (frA_F (by omega)) (frA_t (frA_H f5) f6)))
        · exact Or.inr ⟨hv, ⟨C6, ⟨c6, j6, flS_c g7 (fun a _ _ => Or.inr ⟨_, rfl, rfl⟩), F6⟩, hh⟩, hn⟩
      · subst hv; subst hh; subst hn
        refine w_p (pc1 := 117) rfl rfl ?_
        refine w_m0 (pc1 := 120) rfl rfl (h_gI (j := 8) rfl rfl rfl rfl rfl) rfl ?_
        refine w_t (a := 151) (b := 123) (cb_ne_t (by exact FS_0 F5)) rfl rfl ?_
        rw [pb_r g3]
        skip
        exact e240X F5 hU hp4 (fun C9 F9 => Or.inr ⟨rfl, ⟨_, ⟨c5, j5, flS_c g5 (fun a _ hk => Or.inr ⟨_, rWhr_b hk, rfl⟩), F9⟩, rfl⟩, rfl⟩)
    · subst hv; subst hh; subst hn
      refine w_p (pc1 := 63) (al1 := [(3, .int (nI (b))), (2, .int 0), (0, .ref 176), (1, .int (nI (p)))]) rfl rfl ?_
      refine w_p (pc1 := 64) rfl rfl ?_
      refine w_m0 (pc1 := 67) rfl rfl (h_gC rfl rfl rfl rfl) rfl ?_
      refine w_p (pc1 := 68) rfl rfl ?_
      refine w_p (pc1 := 69) rfl rfl ?_
      refine w_m0 (pc1 := 70) rfl rfl (n_is (e := p) rfl rfl rfl (by omega)) rfl ?_
      refine w_p (pc1 := 71) rfl rfl ?_
      refine w_m0 (pc1 := 74) rfl rfl (h_gI (j := 8) rfl rfl rfl rfl rfl) rfl ?_
      refine w_t (a := 89) (b := 77) (cb_ne_t (by exact FS_0 (FS_I (v := nI b) F3 (sx_h (p := p) (k := 111) hU (by omega)) (by omega)))) rfl rfl ?_
      refine w_p (pc1 := 90) rfl rfl ?_
      refine w_m0 (pc1 := 93) rfl rfl (h_gI (j := 8) rfl rfl rfl rfl rfl) rfl ?_
      refine w_t (a := 151) (b := 96) (cb_ne_t (by exact FS_0 (FS_I (v := nI b) F3 (sx_h (p := p) (k := 111) hU (by omega)) (by omega)))) rfl rfl ?_
      exact e240X (FS_I F3 (sx_h hU (by omega)) (by omega)) hU hp4 (fun C9 F9 => Or.inr ⟨rfl, ⟨_, ⟨c3, j3, flS_c g3 (fun a _ hk => bd_chg (e := 1) (by decide) hk), F9⟩, rfl⟩, rfl⟩)
  · subst hv; subst hh; subst hn
    refine w_p (pc1 := 59) rfl rfl ?_
    refine w_je (pc1 := 62) (vs := [.ref 176]) (rest := []) (st1 := [.int (nI (0))]) (m_238f (d := _) F2) rfl rfl rfl (fun _ _ => rfl) rfl (by exact cl_v my_238 rfl rfl rfl (Nat.le_of_ble_eq_true rfl) rfl (MH_obj rfl rfl) rfl (by decide) rfl rfl) (by rfl) (Nat.le_of_ble_eq_true rfl) (Nat.le_of_ble_eq_true rfl) rfl (by rfl) ?_
    refine w_p (pc1 := 63) (al1 := [(3, .int (nI (0))), (2, .int 0), (0, .ref 176), (1, .int (nI (p)))]) rfl rfl ?_
    refine w_p (pc1 := 64) rfl rfl ?_
    refine w_m0 (pc1 := 67) rfl rfl (h_gC rfl rfl rfl rfl) rfl ?_
    refine w_p (pc1 := 68) rfl rfl ?_
    refine w_p (pc1 := 69) rfl rfl ?_
    refine w_m0 (pc1 := 70) rfl rfl (n_is (e := p) rfl rfl rfl (by omega)) rfl ?_
    refine w_p (pc1 := 71) rfl rfl ?_
    refine w_m0 (pc1 := 74) rfl rfl (h_gI (j := 8) rfl rfl rfl rfl rfl) rfl ?_
    refine w_t (a := 89) (b := 77) (cb_ne_t (by exact FS_0 (FS_I (v := nI 0) F2 (sx_h (p := p) (k := 111) hU (by omega)) (by omega)))) rfl rfl ?_
    refine w_p (pc1 := 90) rfl rfl ?_
    refine w_m0 (pc1 := 93) rfl rfl (h_gI (j := 8) rfl rfl rfl rfl rfl) rfl ?_
    refine w_t (a := 151) (b := 96) (cb_ne_t (by exact FS_0 (FS_I (v := nI 0) F2 (sx_h (p := p) (k := 111) hU (by omega)) (by omega)))) rfl rfl ?_
    exact e240X (b := 0) (FS_I F2 (sx_h hU (by omega)) (by omega)) hU hp4 (fun C9 F9 => Or.inr ⟨rfl, ⟨_, ⟨1, i + 1, flS_1 (bdS_b (bdS_t g2)) g2, F9⟩, rfl⟩, rfl⟩)
set_option maxRecDepth 100000 in
theorem m_240_15 (hU : U p) (hp4 : p ≤ 40) (M : MS B n U V C0 C i nl) (R : RXM C sc none tg) (S : SCM C sc) (hk : kd B n i = 15) : Wd L xs (d + 10) y_240 (0, [(0, .ref 176), (1, .int (nI p))], [], MH C t, 0) (PCG B n U V C0 C t p (rChg (tkP B n) sc tg i nl)) nX := by
  have M1 := chC_M (v := 2) hU M
  have hev := rEvt_e (e := 2) hk rfl
  unfold rChg
  rw [pb_r hev]
  have R4 : ∀ C2 C3 : co_T, frT (chC C p 2) C2 → frT C2 C3 → ∀ {b : Nat}, b < 6 → sc.1 b ≠ 0 → RXM (sI (sI C3 111 p (nI b)) 76 46 (nI b)) sc (some b) tg := by
    intro C2 C3 f2 f3 b hb6 hbz
    have k3 := chC_2 R S f2 f3
    have e8 : ∀ j, (sI (sI C3 111 p (nI b)) 76 46 (nI b)).1 80 j = C3.1 80 j := fun j => by rw [sI_1, if_neg (by omega), sI_1, if_neg (by omega)]
    have e6 : ∀ j, 47 ≤ j → (sI (sI C3 111 p (nI b)) 76 46 (nI b)).1 76 j = C3.1 76 j := fun j hj => by rw [sI_1, if_neg (by omega), sI_1, if_neg (by omega)]
    obtain ⟨h1, h2, h3, h4, h5⟩ := k3.2.1
    refine ⟨by rw [sI_1, if_pos ⟨rfl, rfl⟩]; rfl, (e6 47 (by omega)).trans h2, ?_, fun q hq => ?_, fun q hq => ?_⟩
    · rw [e6 48 (by omega), e6 49 (by omega)]
      exact h3
    · cases hq
      exact TBM_o (TBM_S k3.2.2.1 hb6 hbz) e8 (fun _ => rfl)
    · rw [e6 48 (by omega), e6 49 (by omega)]
      exact ⟨TBM_o (h5 q hq).1 e8 (fun _ => rfl), (h5 q hq).2⟩
  refine w_p (pc1 := 1) rfl rfl ?_
  refine w_p (pc1 := 2) rfl rfl ?_
  refine w_m0 (pc1 := 5) rfl rfl (h_pI (j := 40) rfl rfl rfl rfl rfl rfl rfl ⟨rfl, rfl⟩ rfl) rfl ?_
  refine w_p (pc1 := 6) rfl rfl ?_
  refine w_p (pc1 := 7) (st1 := .int 0 :: _) rfl rfl ?_
  refine w_m0 (pc1 := 10) rfl rfl (h_pI (j := 41) rfl rfl rfl rfl rfl rfl rfl ⟨rfl, rfl⟩ rfl) rfl ?_
  refine w_p (pc1 := 11) rfl rfl ?_
  refine w_m0 (pc1 := 14) rfl rfl (h_gC rfl rfl rfl rfl) rfl ?_
  refine w_p (pc1 := 15) rfl rfl ?_
  refine w_p (pc1 := 16) (st1 := .int (-1) :: _) rfl rfl ?_
  refine w_m0 (pc1 := 17) rfl rfl (n_is (e := p) rfl rfl rfl (by omega)) rfl ?_
  refine w_p (pc1 := 18) rfl rfl ?_
  refine w_m0 (pc1 := 21) (st1 := .long 115923103347316 :: _) rfl rfl rfl rfl ?_
  refine w_je (pc1 := 24) (vs := [.ref 176, .long 115923103347316]) (rest := []) (st1 := [.int 0]) (m_205f (d := _) (sl := 0) ((wd_k (k := 18) (MS_I (MS_I (MS_I M (sx_76 (U := U) (V := V) (j := 40) (by omega)) (by omega)) (sx_76 (U := U) (V := V) (j := 41) (by omega)) (by omega)) (sx_h (V := V) (k := 112) hU (by omega)) (by omega)).2.1 (by decide) (by decide)).trans (decide_eq_false (by rw [hk]; decide)))) rfl rfl rfl (fun _ _ => rfl) rfl (by exact cl_v my_205 rfl rfl rfl (Nat.le_of_ble_eq_true rfl) rfl (MH_obj rfl rfl) rfl (by decide) rfl rfl) (by rfl) (Nat.le_of_ble_eq_true rfl) (Nat.le_of_ble_eq_true rfl) rfl (by rfl) ?_
  refine w_p (pc1 := 25) (al1 := [(2, .int 0), (0, .ref 176), (1, .int (nI (p)))]) rfl rfl ?_
  refine w_p (pc1 := 26) rfl rfl ?_
  refine w_m0 (pc1 := 29) rfl rfl (h_gC rfl rfl rfl rfl) rfl ?_
  refine w_p (pc1 := 30) rfl rfl ?_
  refine w_p (pc1 := 31) rfl rfl ?_
  refine w_t (a := 38) (b := 34) rfl rfl rfl ?_
  refine w_p (pc1 := 39) rfl rfl ?_
  refine w_m0 (pc1 := 42) (st1 := .long 129125580895333 :: _) rfl rfl rfl rfl ?_
  refine w_je (pc1 := 45) (vs := [.ref 176, .long 129125580895333]) (rest := [.int (nI (p)), .ref 210]) (st1 := [.int 0, .int (nI (p)), .ref 210]) (m_205f (d := _) (sl := 0) ((wd_k (k := 41) (MS_I (MS_I (MS_I M (sx_76 (U := U) (V := V) (j := 40) (by omega)) (by omega)) (sx_76 (U := U) (V := V) (j := 41) (by omega)) (by omega)) (sx_h (V := V) (k := 112) hU (by omega)) (by omega)).2.1 (by decide) (by decide)).trans (decide_eq_false (by rw [hk]; decide)))) rfl rfl rfl (fun _ _ => rfl) rfl (by exact cl_v my_205 rfl rfl rfl (Nat.le_of_ble_eq_true rfl) rfl (MH_obj rfl rfl) rfl (by decide) rfl rfl) (by rfl) (Nat.le_of_ble_eq_true rfl) (Nat.le_of_ble_eq_true rfl) rfl (by rfl) ?_
  refine w_t (a := 52) (b := 48) rfl rfl rfl ?_
  refine w_p (pc1 := 53) (st1 := .int 2 :: _) rfl rfl ?_
  refine w_m0 (pc1 := 54) rfl rfl (n_is (e := p) rfl rfl rfl (by omega)) rfl ?_
  refine w_p (pc1 := 55) rfl rfl ?_
  refine w_ji (pc1 := 58) (vs := [.ref 176]) (rest := []) (nS (d := _) M1 (by rw [hk]; decide)) rfl rfl rfl (fun _ _ => rfl) rfl (by exact cl_v my_195 rfl rfl rfl (Nat.le_of_ble_eq_true rfl) rfl (MH_obj rfl rfl) rfl (by decide) rfl rfl) (by rfl) (Nat.le_of_ble_eq_true rfl) (Nat.le_of_ble_eq_true rfl) rfl (fun v h1 d1 hq => ?_) (fun _ _ _ e => e.elim)
  rcases hq with ⟨hv, ⟨C2, ⟨g2, M2, f2⟩, hh⟩, hn⟩ | ⟨hv, ⟨C2, ⟨g2, F2, f2⟩, hh⟩, hn⟩
  · subst hv; subst hh; subst hn
    refine w_p (pc1 := 59) rfl rfl ?_
    refine w_ji (pc1 := 62) (vs := [.ref 176]) (rest := []) (m_238 (d := _) M2 (SCM_T (SCM_A S chC_A) f2)) rfl rfl rfl (fun _ _ => rfl) rfl (by exact cl_v my_238 rfl rfl rfl (Nat.le_of_ble_eq_true rfl) rfl (MH_obj rfl rfl) rfl (by decide) rfl rfl) (by rfl) (Nat.le_of_ble_eq_true rfl) (Nat.le_of_ble_eq_true rfl) rfl (fun v h1 d1 hq => ?_) (fun _ _ _ e => e.elim)
    rcases hq with ⟨b, hv, ⟨C3, ⟨g3, g4, g5, M3, f3⟩, hh⟩, hn⟩ | ⟨b, hv, ⟨C3, ⟨c3, j3, g3, F3, f3⟩, hh⟩, hn⟩
    · subst hv; subst hh; subst hn
      refine w_p (pc1 := 63) (al1 := [(3, .int (nI (b))), (2, .int 0), (0, .ref 176), (1, .int (nI (p)))]) rfl rfl ?_
      refine w_p (pc1 := 64) rfl rfl ?_
      refine w_m0 (pc1 := 67) rfl rfl (h_gC rfl rfl rfl rfl) rfl ?_
      refine w_p (pc1 := 68) rfl rfl ?_
      refine w_p (pc1 := 69) rfl rfl ?_
      refine w_m0 (pc1 := 70) rfl rfl (n_is (e := p) rfl rfl rfl (by omega)) rfl ?_
      refine w_p (pc1 := 71) rfl rfl ?_
      refine w_m0 (pc1 := 74) rfl rfl (h_gI (j := 8) rfl rfl rfl rfl rfl) rfl ?_
      refine w_f (a := 89) (b := 77) (cb_ne_f (by exact M3.2.1.2.1)) rfl rfl ?_
      refine w_p (pc1 := 78) rfl rfl ?_
      refine w_t (a := 89) (b := 81) rfl rfl rfl ?_
      refine w_p (pc1 := 90) rfl rfl ?_
      refine w_m0 (pc1 := 93) rfl rfl (h_gI (j := 8) rfl rfl rfl rfl rfl) rfl ?_
      refine w_f (a := 151) (b := 96) (cb_ne_f (by exact M3.2.1.2.1)) rfl rfl ?_
      refine w_p (pc1 := 97) rfl rfl ?_
      refine w_p (pc1 := 98) rfl rfl ?_
      refine w_m0 (pc1 := 101) rfl rfl (h_pI (j := 46) rfl rfl rfl rfl rfl rfl rfl ⟨rfl, rfl⟩ rfl) rfl ?_
      refine w_p (pc1 := 102) rfl rfl ?_
      refine w_m0 (pc1 := 105) rfl rfl (h_gC rfl rfl rfl rfl) rfl ?_
      refine w_p (pc1 := 106) rfl rfl ?_
      refine w_m0 (pc1 := 107) (st1 := .int 2 :: _) rfl rfl (n_ile (e := p) rfl rfl rfl (by omega) ((chC_2 R S f2 f3).1.2.2.2)) rfl ?_
      refine w_p (pc1 := 108) (st1 := .int 1 :: _) rfl rfl ?_
      refine w_t (a := 116) (b := 111) rfl rfl rfl ?_
      have k3 := chC_2 R S f2 f3
      have M5 := MS_I (v := nI b) (MS_I (v := nI b) M3 (sx_h (p := p) (k := 111) hU (by omega)) (by omega)) (sx_76 (j := 46) (by omega)) (by omega)
      have I5 : ITM (sI (sI C3 111 p (nI b)) 76 46 (nI b)) p [] (i + 1 + 1 + 1) := ⟨k3.1.1, k3.1.2.1, fun j x h => (by cases h), Nat.zero_le _⟩
      rw [pb_r g3]
      show Wd L xs _ _ _ (PCG B n U V C0 C t p (rWhr (tkP B n) sc tg 2 b (([], []), i + 1 + 1, nl))) _
      rw [rWhr_e]
      refine Wd_q (e240W (d := d) (a := []) hU hp4 M5 (R4 _ _ f2 f3 g4.1 g4.2) I5 (by rw [sI_1, if_neg (by omega), sI_1, if_neg (by omega)]; exact k3.1.2.2.1)) (fun v h m hq => ?_) (fun _ _ _ e => e)
      rcases hq with ⟨hv, ⟨C6, ⟨wh, i6, nl6, g7, g8, M6, g9, g10, f6, g11⟩, hh⟩, hn⟩ | ⟨hv, ⟨C6, ⟨c6, j6, g7, F6⟩, hh⟩, hn⟩
      · refine Or.inl ⟨hv, ⟨C6, ⟨(2, some b, [], [], wh, 0), i6, nl6, by rw [pb_r g7], g8, M6, ⟨?_, ?_, fun h => ?_, fun h => ?_, fun _ => g9⟩, ?_⟩, hh⟩, hn⟩
        · rw [g11.1, sI_1, if_neg (by omega), sI_1, if_neg (by omega)]
          exact k3.1.2.2.2
        · rw [g11.2, sI_1, if_neg (by omega), sI_1, if_pos ⟨rfl, rfl⟩]
          rfl
        · cases h
        · cases h
        · exact frA_t k3.2.2.2 (frA_t (frA_I (k := 111) (by omega)) (frA_t (frA_F (by omega)) f6))
      · exact Or.inr ⟨hv, ⟨C6, ⟨c6, j6, flS_c g7 (fun a _ _ => Or.inr ⟨_, rfl, rfl⟩), F6⟩, hh⟩, hn⟩
    · subst hv; subst hh; subst hn
      refine w_p (pc1 := 63) (al1 := [(3, .int (nI (b))), (2, .int 0), (0, .ref 176), (1, .int (nI (p)))]) rfl rfl ?_
      refine w_p (pc1 := 64) rfl rfl ?_
      refine w_m0 (pc1 := 67) rfl rfl (h_gC rfl rfl rfl rfl) rfl ?_
      refine w_p (pc1 := 68) rfl rfl ?_
      refine w_p (pc1 := 69) rfl rfl ?_
      refine w_m0 (pc1 := 70) rfl rfl (n_is (e := p) rfl rfl rfl (by omega)) rfl ?_
      refine w_p (pc1 := 71) rfl rfl ?_
      refine w_m0 (pc1 := 74) rfl rfl (h_gI (j := 8) rfl rfl rfl rfl rfl) rfl ?_
      refine w_t (a := 89) (b := 77) (cb_ne_t (by exact FS_0 (FS_I (v := nI b) F3 (sx_h (p := p) (k := 111) hU (by omega)) (by omega)))) rfl rfl ?_
      refine w_p (pc1 := 90) rfl rfl ?_
      refine w_m0 (pc1 := 93) rfl rfl (h_gI (j := 8) rfl rfl rfl rfl rfl) rfl ?_
      refine w_t (a := 151) (b := 96) (cb_ne_t (by exact FS_0 (FS_I (v := nI b) F3 (sx_h (p := p) (k := 111) hU (by omega)) (by omega)))) rfl rfl ?_
      exact e240X (FS_I F3 (sx_h hU (by omega)) (by omega)) hU hp4 (fun C9 F9 => Or.inr ⟨rfl, ⟨_, ⟨c3, j3, flS_c g3 (fun a _ hk => bd_chg (e := 2) (by decide) hk), F9⟩, rfl⟩, rfl⟩)
  · subst hv; subst hh; subst hn
    refine w_p (pc1 := 59) rfl rfl ?_
    refine w_je (pc1 := 62) (vs := [.ref 176]) (rest := []) (st1 := [.int (nI (0))]) (m_238f (d := _) F2) rfl rfl rfl (fun _ _ => rfl) rfl (by exact cl_v my_238 rfl rfl rfl (Nat.le_of_ble_eq_true rfl) rfl (MH_obj rfl rfl) rfl (by decide) rfl rfl) (by rfl) (Nat.le_of_ble_eq_true rfl) (Nat.le_of_ble_eq_true rfl) rfl (by rfl) ?_
    refine w_p (pc1 := 63) (al1 := [(3, .int (nI (0))), (2, .int 0), (0, .ref 176), (1, .int (nI (p)))]) rfl rfl ?_
    refine w_p (pc1 := 64) rfl rfl ?_
    refine w_m0 (pc1 := 67) rfl rfl (h_gC rfl rfl rfl rfl) rfl ?_
    refine w_p (pc1 := 68) rfl rfl ?_
    refine w_p (pc1 := 69) rfl rfl ?_
    refine w_m0 (pc1 := 70) rfl rfl (n_is (e := p) rfl rfl rfl (by omega)) rfl ?_
    refine w_p (pc1 := 71) rfl rfl ?_
    refine w_m0 (pc1 := 74) rfl rfl (h_gI (j := 8) rfl rfl rfl rfl rfl) rfl ?_
    refine w_t (a := 89) (b := 77) (cb_ne_t (by exact FS_0 (FS_I (v := nI 0) F2 (sx_h (p := p) (k := 111) hU (by omega)) (by omega)))) rfl rfl ?_
    refine w_p (pc1 := 90) rfl rfl ?_
    refine w_m0 (pc1 := 93) rfl rfl (h_gI (j := 8) rfl rfl rfl rfl rfl) rfl ?_
    refine w_t (a := 151) (b := 96) (cb_ne_t (by exact FS_0 (FS_I (v := nI 0) F2 (sx_h (p := p) (k := 111) hU (by omega)) (by omega)))) rfl rfl ?_
    exact e240X (b := 0) (FS_I F2 (sx_h hU (by omega)) (by omega)) hU hp4 (fun C9 F9 => Or.inr ⟨rfl, ⟨_, ⟨1, i + 1, flS_1 (bdS_b (bdS_t g2)) g2, F9⟩, rfl⟩, rfl⟩)
end MSD
