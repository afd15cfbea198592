
/-! THE OTHER SIDE READS STATEMENTS, 9: what a trigger does -/
section MSE
variable {L : Nat} {xs : Nat → Int32} {B : Nat → Nat} {n : Nat} {C C' C0 C1 : co_T} {t : ab_H} {d i i0 i1 j b e p k w q : Nat} {U V : Nat → Prop} {c : Int32} {sc : sc_T} {row : Option Nat} {tg : Option (Nat × Nat)} {nl : Option Nat} {E : fe_T} {tr : Nat → Option tr_T}
variable {g ti : Nat} {pp : Nat × Nat} {P : Option Value → ab_H → Nat → Prop}
def fB_y (g : Nat) (C C' : co_T) : Prop := (∀ k j, ¬ (k = 76 ∧ (3 ≤ j ∧ j ≤ 9 ∨ 40 ≤ j ∧ j ≤ 46 ∨ j = 52)) → ¬ (k = 106 ∧ 620 * (32 + g) ≤ j ∧ j < 620 * (32 + g) + 620) → k ≠ 108 → ¬ ((110 ≤ k ∧ k ≤ 113) ∧ j = 32 + g) → ¬ ((100 ≤ k ∧ k ≤ 102) ∧ j = g) → C'.1 k j = C.1 k j) ∧ (∀ k j, ¬ (k = 76 ∧ j = 7) → ¬ (k = 107 ∧ 620 * (32 + g) ≤ j ∧ j < 620 * (32 + g) + 620) → k ≠ 109 → ¬ (k = 103 ∧ j = g) → C'.2.1 k j = C.2.1 k j) ∧ C'.2.2 = C.2.2
set_option maxRecDepth 100000 in
theorem fBy_t {C1 C2 C3 : co_T} (h : fB_y g C1 C2) (f : fB_y g C2 C3) : fB_y g C1 C3 := ⟨fun k j a b c d e => (f.1 k j a b c d e).trans (h.1 k j a b c d e), fun k j a b c d => (f.2.1 k j a b c d).trans (h.2.1 k j a b c d), f.2.2.trans h.2.2⟩
set_option maxRecDepth 100000 in
theorem fBy_A (h : frA (32 + g) C C') : fB_y g C C' := ⟨fun k j a b c d _ => h.1 k j a b c d, fun k j a b c _ => h.2.1 k j a b c, h.2.2⟩
set_option maxRecDepth 100000 in
theorem fBy_T (h : frT C C') : fB_y g C C' := fBy_A (frA_T h)
set_option maxRecDepth 100000 in
theorem fBy_I {v : Int32} (h : 100 ≤ k ∧ k ≤ 102) : fB_y g C (sI C k g v) := ⟨fun q i _ _ _ _ d => by rw [sI_1, if_neg (by omega)], fun _ _ _ _ _ _ => rfl, rfl⟩
set_option maxRecDepth 100000 in
theorem fBy_J {v : Int64} : fB_y g C (sJ C 103 g v) := ⟨fun q i _ _ _ _ d => rfl, fun q i _ _ _ d => by rw [sJ_2, if_neg (by omega)], rfl⟩
set_option maxRecDepth 100000 in
theorem sx_g (hU : U (32 + g)) (h : 97 ≤ k ∧ k ≤ 105) : sxI U V k g := Or.inr (Or.inr (Or.inr (Or.inr (Or.inr (Or.inr (Or.inl ⟨h, hU⟩))))))
set_option maxRecDepth 100000 in
theorem sj_g (hU : U (32 + g)) : sxJ U V 103 g := Or.inr (Or.inr (Or.inr (Or.inl ⟨Or.inr rfl, hU⟩)))
def AGM (C : co_T) (g : Nat) (a : ac_T) : Prop := C.1 100 g = nI (aKd a) ∧ C.1 101 g = tgI (aTb a) ∧ (aKd a < 3 → ACM C (32 + g) a) ∧ (∀ c l, aKd a = 3 → aCs a = [c] → aSs a = [some l] → C.1 102 g = nI c ∧ C.1 113 (32 + g) = nI l.length ∧ foM C (32 + g) 0 l) ∧ (aKd a = 4 → (C.2.1 103 g).toInt32 = aNo a)
def PAC (B : Nat → Nat) (n : Nat) (U V : Nat → Prop) (C0 C : co_T) (t : ab_H) (g : Nat) (r : pz_T (ac_T × Nat × Option Nat)) : Option Value → ab_H → Nat → Prop := fun v h m => (none = v ∧ (∃ C', (∃ a i' nl', r = .inr (a, i', nl') ∧ kd B n i' ≠ 1 ∧ MS B n U V C0 C' i' nl' ∧ AGM C' g a ∧ fB_y g C C') ∧ MH C' t = h) ∧ 0 = m) ∨ (none = v ∧ (∃ C', (∃ c j, flS B n (fun x : ac_T × Nat × Option Nat => x.2.1) r c j ∧ FS B n U V C0 C' c j) ∧ MH C' t = h) ∧ 0 = m)
set_option maxRecDepth 100000 in
theorem ACM_o {a : ac_T} (A : ACM C p a) (h1 : ∀ k j, k = 106 ∨ (110 ≤ k ∧ k ≤ 113) → C'.1 k j = C.1 k j) (h2 : ∀ j, C'.2.1 107 j = C.2.1 107 j) : ACM C' p a := by
  have e6 : ∀ j, C'.1 106 j = C.1 106 j := fun j => h1 106 j (by omega)
  have ew : ∀ {s : Nat} {O : Option (List op_T)}, whM C p s O → whM C' p s O := by
    intro s O hw
    cases O with
    | none => exact ⟨(h1 112 p (by omega)).trans hw.1, (h1 113 p (by omega)).trans hw.2⟩
    | some O => exact ⟨(h1 112 p (by omega)).trans hw.1, (h1 113 p (by omega)).trans hw.2.1, hw.2.2.1, foM_o hw.2.2.2 e6 h2⟩
  exact ⟨(h1 110 p (by omega)).trans A.1, (h1 111 p (by omega)).trans A.2.1, fun e => ⟨(h1 113 p (by omega)).trans (A.2.2.1 e).1, (A.2.2.1 e).2.1, itM_o (A.2.2.1 e).2.2 e6 h2⟩, fun e => ⟨(A.2.2.2.1 e).1, itM_o (A.2.2.2.1 e).2.1 e6 h2, ew (A.2.2.2.1 e).2.2⟩, fun e => ew (A.2.2.2.2 e)⟩
set_option maxRecDepth 100000 in
theorem RXM_1 {k j : Nat} {v : Int32} (R : RXM C sc row tg) (hk : k ≠ 76 ∧ k ≠ 80) : RXM (sI C k j v) sc row tg := RXM_o R (fun j _ _ => by rw [sI_1, if_neg (by omega)]) (fun j => by rw [sI_1, if_neg (by omega)]) (fun _ => rfl)
set_option maxRecDepth 100000 in
theorem SCM_1 {k j : Nat} {v : Int32} (S : SCM C sc) (hk : k ≠ 78 ∧ k ≠ 80) : SCM (sI C k j v) sc := fun b hb => ⟨by rw [sI_1, if_neg (by omega)]; exact (S b hb).1, fun hz => by
  obtain ⟨h1, h2, h3, h4⟩ := (S b hb).2 hz
  exact ⟨h1, by rw [sI_1, if_neg (by omega)]; exact h2, h3, h4⟩⟩
set_option maxRecDepth 100000 in
theorem rChg_k {K : tv2} {a : ac_T} {i' : Nat} {nl' : Option Nat} (h : rChg K sc tg i nl = .inr (a, i', nl')) : aKd a < 3 := by
  unfold rChg at h
  obtain ⟨e, he, h⟩ := pb_inr h
  obtain ⟨tb, _, h⟩ := pb_inr h
  split at h
  · rw [(rIns_k h).1]
    decide
  · obtain ⟨s, _, h⟩ := pb_inr h
    have h3 : e.1 < 3 := by
      unfold rEvt at he
      split at he
      · cases he
      · rename_i q hq
        cases he
        have := evt_s hq
        show q < 3
        omega
    unfold rWhr at h
    split at h
    · obtain ⟨x, _, h⟩ := pb_inr h
      injection h with h
      injection h with h1 h2
      subst h1
      exact h3
    · injection h with h
      injection h with h1 h2
      subst h1
      exact h3
set_option maxRecDepth 100000 in
theorem m_239_18 (hg : g < 8) (hU : U (32 + g)) (M : MS B n U V C0 C i nl) (R : RXM C sc none (some pp)) (S : SCM C sc) (hk : kd B n i = 18) : Wd L xs (d + 11) y_239 (0, [(0, .ref 176), (1, .int (nI g))], [], MH C t, 0) (PAC B n U V C0 C t g (rAct (tkP B n) sc pp ti i nl)) nX := by
  have M1 := MS_I (v := -1) M (sx_g (V := V) (k := 101) hU (by omega)) (by omega)
  have hr : rAct (tkP B n) sc pp ti i nl = rChg (tkP B n) sc (some pp) i nl := by
    unfold rAct
    rw [if_neg (by show ¬ kd B n i = 21; rw [hk]; decide), if_neg (by show ¬ kd B n i = 32; rw [hk]; decide)]
  rw [hr]
  refine w_p (pc1 := 1) rfl rfl ?_
  refine w_m0 (pc1 := 4) rfl rfl (h_gC rfl rfl rfl rfl) rfl ?_
  refine w_p (pc1 := 5) rfl rfl ?_
  refine w_p (pc1 := 6) (st1 := .int (-1) :: _) rfl rfl ?_
  refine w_m0 (pc1 := 7) rfl rfl (n_is (e := g) rfl rfl rfl (by omega)) rfl ?_
  refine w_p (pc1 := 8) rfl rfl ?_
  refine w_m0 (pc1 := 11) (st1 := .long 115923103347316 :: _) rfl rfl rfl rfl ?_
  refine w_je (pc1 := 14) (vs := [.ref 176, .long 115923103347316]) (rest := []) (st1 := [.int 1]) (m_205t (d := _) (sl := 0) ((wd_k (k := 18) M1.2.1 (by decide) (by decide)).trans (decide_eq_true hk))) rfl rfl rfl (fun _ _ => rfl) rfl (by exact cl_v my_205 rfl rfl rfl (Nat.le_of_ble_eq_true rfl) rfl (MH_obj rfl rfl) rfl (by decide) rfl rfl) (by rfl) (Nat.le_of_ble_eq_true rfl) (Nat.le_of_ble_eq_true rfl) rfl (by rfl) ?_
  refine w_t (a := 37) (b := 17) rfl rfl rfl ?_
  refine w_p (pc1 := 38) rfl rfl ?_
  refine w_p (pc1 := 40) (st1 := .int 32 :: _) rfl rfl ?_
  refine w_p (pc1 := 41) rfl rfl ?_
  refine w_iadd (pc1 := 42) (u := nI (32)) (v := nI (g)) (z := nI (32 + g)) rfl (nK_add) rfl ?_
  refine w_ji (pc1 := 45) (vs := [.ref 176, .int (nI (32 + g))]) (rest := []) (m_240_18 (d := _) (p := 32 + g) hU (by omega) M1 (RXM_1 R (by omega)) (SCM_1 S (by omega)) hk) rfl rfl rfl (fun _ _ => rfl) rfl (by exact cl_v my_240 rfl rfl rfl (Nat.le_of_ble_eq_true rfl) rfl (MH_obj rfl rfl) rfl (by decide) rfl rfl) (by rfl) (Nat.le_of_ble_eq_true rfl) (Nat.le_of_ble_eq_true rfl) rfl (fun v h1 d1 hq => ?_) (fun _ _ _ e => e.elim)
  rcases hq with ⟨hv, ⟨C2, ⟨a, i2, nl2, g1, g2, M2, A2, f2⟩, hh⟩, hn⟩ | ⟨hv, ⟨C2, ⟨c2, j2, g1, F2⟩, hh⟩, hn⟩
  · subst hv; subst hh; subst hn
    refine w_p (pc1 := 46) rfl rfl ?_
    refine w_m0 (pc1 := 49) rfl rfl (h_gC rfl rfl rfl rfl) rfl ?_
    refine w_p (pc1 := 50) rfl rfl ?_
    refine w_p (pc1 := 51) rfl rfl ?_
    refine w_m0 (pc1 := 54) rfl rfl (h_gC rfl rfl rfl rfl) rfl ?_
    refine w_p (pc1 := 56) (st1 := .int 32 :: _) rfl rfl ?_
    refine w_p (pc1 := 57) rfl rfl ?_
    refine w_iadd (pc1 := 58) (u := nI (32)) (v := nI (g)) (z := nI (32 + g)) rfl (nK_add) rfl ?_
    refine w_m0 (pc1 := 59) (st1 := .int (nI (aKd a)) :: _) rfl rfl (n_ile (e := 32 + g) rfl rfl rfl (by omega) (A2.1)) rfl ?_
    refine w_m0 (pc1 := 60) rfl rfl (n_is (e := g) rfl rfl rfl (by omega)) rfl ?_
    refine w_p (pc1 := 61) rfl rfl ?_
    refine w_m0 (pc1 := 64) rfl rfl (h_gC rfl rfl rfl rfl) rfl ?_
    refine w_p (pc1 := 65) rfl rfl ?_
    refine w_p (pc1 := 66) rfl rfl ?_
    refine w_m0 (pc1 := 69) rfl rfl (h_gC rfl rfl rfl rfl) rfl ?_
    refine w_p (pc1 := 71) (st1 := .int 32 :: _) rfl rfl ?_
    refine w_p (pc1 := 72) rfl rfl ?_
    refine w_iadd (pc1 := 73) (u := nI (32)) (v := nI (g)) (z := nI (32 + g)) rfl (nK_add) rfl ?_
    refine w_m0 (pc1 := 74) (st1 := .int (tgI (aTb a)) :: _) rfl rfl (n_ile (e := 32 + g) rfl rfl rfl (by omega) (by rw [sI_1, if_neg (by omega)]; exact A2.2.1)) rfl ?_
    refine w_m0 (pc1 := 75) rfl rfl (n_is (e := g) rfl rfl rfl (by omega)) rfl ?_
    refine w_p (pc1 := 295) rfl rfl ?_
    refine w_r rfl rfl rfl (fun _ _ => rfl) rfl ?_
    refine Or.inl ⟨rfl, ⟨_, ⟨a, i2, nl2, g1, g2, MS_I (MS_I M2 (sx_g hU (by omega)) (by omega)) (sx_g hU (by omega)) (by omega), ⟨?_, ?_, fun _ => ACM_o A2 (fun k j hj => by rw [sI_1, if_neg (by omega), sI_1, if_neg (by omega)]) (fun _ => rfl), fun c l h => ?_, fun h => ?_⟩, ?_⟩, rfl⟩, rfl⟩
    · rw [sI_1, if_neg (by omega), sI_1, if_pos ⟨rfl, rfl⟩]
    · rw [sI_1, if_pos ⟨rfl, rfl⟩]
    · exact absurd h (by have := rChg_k g1; omega)
    · exact absurd h (by have := rChg_k g1; omega)
    · exact fBy_t (fBy_I (by omega)) (fBy_t (fBy_A f2) (fBy_t (fBy_I (by omega)) (fBy_I (by omega))))
  · subst hv; subst hh; subst hn
    refine w_p (pc1 := 46) rfl rfl ?_
    refine w_m0 (pc1 := 49) rfl rfl (h_gC rfl rfl rfl rfl) rfl ?_
    refine w_p (pc1 := 50) rfl rfl ?_
    refine w_p (pc1 := 51) rfl rfl ?_
    refine w_m0 (pc1 := 54) rfl rfl (h_gC rfl rfl rfl rfl) rfl ?_
    refine w_p (pc1 := 56) (st1 := .int 32 :: _) rfl rfl ?_
    refine w_p (pc1 := 57) rfl rfl ?_
    refine w_iadd (pc1 := 58) (u := nI (32)) (v := nI (g)) (z := nI (32 + g)) rfl (nK_add) rfl ?_
    refine w_m0 (pc1 := 59) rfl rfl (n_il (e := 32 + g) rfl rfl rfl (by omega)) rfl ?_
    refine w_m0 (pc1 := 60) rfl rfl (n_is (e := g) rfl rfl rfl (by omega)) rfl ?_
    refine w_p (pc1 := 61) rfl rfl ?_
    refine w_m0 (pc1 := 64) rfl rfl (h_gC rfl rfl rfl rfl) rfl ?_
    refine w_p (pc1 := 65) rfl rfl ?_
    refine w_p (pc1 := 66) rfl rfl ?_
    refine w_m0 (pc1 := 69) rfl rfl (h_gC rfl rfl rfl rfl) rfl ?_
    refine w_p (pc1 := 71) (st1 := .int 32 :: _) rfl rfl ?_
    refine w_p (pc1 := 72) rfl rfl ?_
    refine w_iadd (pc1 := 73) (u := nI (32)) (v := nI (g)) (z := nI (32 + g)) rfl (nK_add) rfl ?_
    refine w_m0 (pc1 := 74) rfl rfl (n_il (e := 32 + g) rfl rfl rfl (by omega)) rfl ?_
    refine w_m0 (pc1 := 75) rfl rfl (n_is (e := g) rfl rfl rfl (by omega)) rfl ?_
    refine w_p (pc1 := 295) rfl rfl ?_
    refine w_r rfl rfl rfl (fun _ _ => rfl) rfl ?_
    exact Or.inr ⟨rfl, ⟨_, ⟨c2, j2, g1, FS_I (FS_I F2 (sx_g hU (by omega)) (by omega)) (sx_g hU (by omega)) (by omega)⟩, rfl⟩, rfl⟩
set_option maxRecDepth 100000 in
theorem m_239_41 (hg : g < 8) (hU : U (32 + g)) (M : MS B n U V C0 C i nl) (R : RXM C sc none (some pp)) (S : SCM C sc) (hk : kd B n i = 41) : Wd L xs (d + 11) y_239 (0, [(0, .ref 176), (1, .int (nI g))], [], MH C t, 0) (PAC B n U V C0 C t g (rAct (tkP B n) sc pp ti i nl)) nX := by
  have M1 := MS_I (v := -1) M (sx_g (V := V) (k := 101) hU (by omega)) (by omega)
  have hr : rAct (tkP B n) sc pp ti i nl = rChg (tkP B n) sc (some pp) i nl := by
    unfold rAct
    rw [if_neg (by show ¬ kd B n i = 21; rw [hk]; decide), if_neg (by show ¬ kd B n i = 32; rw [hk]; decide)]
  rw [hr]
  refine w_p (pc1 := 1) rfl rfl ?_
  refine w_m0 (pc1 := 4) rfl rfl (h_gC rfl rfl rfl rfl) rfl ?_
  refine w_p (pc1 := 5) rfl rfl ?_
  refine w_p (pc1 := 6) (st1 := .int (-1) :: _) rfl rfl ?_
  refine w_m0 (pc1 := 7) rfl rfl (n_is (e := g) rfl rfl rfl (by omega)) rfl ?_
  refine w_p (pc1 := 8) rfl rfl ?_
  refine w_m0 (pc1 := 11) (st1 := .long 115923103347316 :: _) rfl rfl rfl rfl ?_
  refine w_je (pc1 := 14) (vs := [.ref 176, .long 115923103347316]) (rest := []) (st1 := [.int 0]) (m_205f (d := _) (sl := 0) ((wd_k (k := 18) M1.2.1 (by decide) (by decide)).trans (decide_eq_false (by rw [hk]; decide)))) rfl rfl rfl (fun _ _ => rfl) rfl (by exact cl_v my_205 rfl rfl rfl (Nat.le_of_ble_eq_true rfl) rfl (MH_obj rfl rfl) rfl (by decide) rfl rfl) (by rfl) (Nat.le_of_ble_eq_true rfl) (Nat.le_of_ble_eq_true rfl) rfl (by rfl) ?_
  refine w_f (a := 37) (b := 17) rfl rfl rfl ?_
  refine w_p (pc1 := 18) rfl rfl ?_
  refine w_m0 (pc1 := 21) (st1 := .long 129125580895333 :: _) rfl rfl rfl rfl ?_
  refine w_je (pc1 := 24) (vs := [.ref 176, .long 129125580895333]) (rest := []) (st1 := [.int 1]) (m_205t (d := _) (sl := 0) ((wd_k (k := 41) M1.2.1 (by decide) (by decide)).trans (decide_eq_true hk))) rfl rfl rfl (fun _ _ => rfl) rfl (by exact cl_v my_205 rfl rfl rfl (Nat.le_of_ble_eq_true rfl) rfl (MH_obj rfl rfl) rfl (by decide) rfl rfl) (by rfl) (Nat.le_of_ble_eq_true rfl) (Nat.le_of_ble_eq_true rfl) rfl (by rfl) ?_
  refine w_t (a := 37) (b := 27) rfl rfl rfl ?_
  refine w_p (pc1 := 38) rfl rfl ?_
  refine w_p (pc1 := 40) (st1 := .int 32 :: _) rfl rfl ?_
  refine w_p (pc1 := 41) rfl rfl ?_
  refine w_iadd (pc1 := 42) (u := nI (32)) (v := nI (g)) (z := nI (32 + g)) rfl (nK_add) rfl ?_
  refine w_ji (pc1 := 45) (vs := [.ref 176, .int (nI (32 + g))]) (rest := []) (m_240_41 (d := _) (p := 32 + g) hU (by omega) M1 (RXM_1 R (by omega)) (SCM_1 S (by omega)) hk) rfl rfl rfl (fun _ _ => rfl) rfl (by exact cl_v my_240 rfl rfl rfl (Nat.le_of_ble_eq_true rfl) rfl (MH_obj rfl rfl) rfl (by decide) rfl rfl) (by rfl) (Nat.le_of_ble_eq_true rfl) (Nat.le_of_ble_eq_true rfl) rfl (fun v h1 d1 hq => ?_) (fun _ _ _ e => e.elim)
  rcases hq with ⟨hv, ⟨C2, ⟨a, i2, nl2, g1, g2, M2, A2, f2⟩, hh⟩, hn⟩ | ⟨hv, ⟨C2, ⟨c2, j2, g1, F2⟩, hh⟩, hn⟩
  · subst hv; subst hh; subst hn
    refine w_p (pc1 := 46) rfl rfl ?_
    refine w_m0 (pc1 := 49) rfl rfl (h_gC rfl rfl rfl rfl) rfl ?_
    refine w_p (pc1 := 50) rfl rfl ?_
    refine w_p (pc1 := 51) rfl rfl ?_
    refine w_m0 (pc1 := 54) rfl rfl (h_gC rfl rfl rfl rfl) rfl ?_
    refine w_p (pc1 := 56) (st1 := .int 32 :: _) rfl rfl ?_
    refine w_p (pc1 := 57) rfl rfl ?_
    refine w_iadd (pc1 := 58) (u := nI (32)) (v := nI (g)) (z := nI (32 + g)) rfl (nK_add) rfl ?_
    refine w_m0 (pc1 := 59) (st1 := .int (nI (aKd a)) :: _) rfl rfl (n_ile (e := 32 + g) rfl rfl rfl (by omega) (A2.1)) rfl ?_
    refine w_m0 (pc1 := 60) rfl rfl (n_is (e := g) rfl rfl rfl (by omega)) rfl ?_
    refine w_p (pc1 := 61) rfl rfl ?_
    refine w_m0 (pc1 := 64) rfl rfl (h_gC rfl rfl rfl rfl) rfl ?_
    refine w_p (pc1 := 65) rfl rfl ?_
    refine w_p (pc1 := 66) rfl rfl ?_
    refine w_m0 (pc1 := 69) rfl rfl (h_gC rfl rfl rfl rfl) rfl ?_
    refine w_p (pc1 := 71) (st1 := .int 32 :: _) rfl rfl ?_
    refine w_p (pc1 := 72) rfl rfl ?_
    refine w_iadd (pc1 := 73) (u := nI (32)) (v := nI (g)) (z := nI (32 + g)) rfl (nK_add) rfl ?_
    refine w_m0 (pc1 := 74) (st1 := .int (tgI (aTb a)) :: _) rfl rfl (n_ile (e := 32 + g) rfl rfl rfl (by omega) (by rw [sI_1, if_neg (by omega)]; exact A2.2.1)) rfl ?_
    refine w_m0 (pc1 := 75) rfl rfl (n_is (e := g) rfl rfl rfl (by omega)) rfl ?_
    refine w_p (pc1 := 295) rfl rfl ?_
    refine w_r rfl rfl rfl (fun _ _ => rfl) rfl ?_
    refine Or.inl ⟨rfl, ⟨_, ⟨a, i2, nl2, g1, g2, MS_I (MS_I M2 (sx_g hU (by omega)) (by omega)) (sx_g hU (by omega)) (by omega), ⟨?_, ?_, fun _ => ACM_o A2 (fun k j hj => by rw [sI_1, if_neg (by omega), sI_1, if_neg (by omega)]) (fun _ => rfl), fun c l h => ?_, fun h => ?_⟩, ?_⟩, rfl⟩, rfl⟩
    · rw [sI_1, if_neg (by omega), sI_1, if_pos ⟨rfl, rfl⟩]
    · rw [sI_1, if_pos ⟨rfl, rfl⟩]
    · exact absurd h (by have := rChg_k g1; omega)
    · exact absurd h (by have := rChg_k g1; omega)
    · exact fBy_t (fBy_I (by omega)) (fBy_t (fBy_A f2) (fBy_t (fBy_I (by omega)) (fBy_I (by omega))))
  · subst hv; subst hh; subst hn
    refine w_p (pc1 := 46) rfl rfl ?_
    refine w_m0 (pc1 := 49) rfl rfl (h_gC rfl rfl rfl rfl) rfl ?_
    refine w_p (pc1 := 50) rfl rfl ?_
    refine w_p (pc1 := 51) rfl rfl ?_
    refine w_m0 (pc1 := 54) rfl rfl (h_gC rfl rfl rfl rfl) rfl ?_
    refine w_p (pc1 := 56) (st1 := .int 32 :: _) rfl rfl ?_
    refine w_p (pc1 := 57) rfl rfl ?_
    refine w_iadd (pc1 := 58) (u := nI (32)) (v := nI (g)) (z := nI (32 + g)) rfl (nK_add) rfl ?_
    refine w_m0 (pc1 := 59) rfl rfl (n_il (e := 32 + g) rfl rfl rfl (by omega)) rfl ?_
    refine w_m0 (pc1 := 60) rfl rfl (n_is (e := g) rfl rfl rfl (by omega)) rfl ?_
    refine w_p (pc1 := 61) rfl rfl ?_
    refine w_m0 (pc1 := 64) rfl rfl (h_gC rfl rfl rfl rfl) rfl ?_
    refine w_p (pc1 := 65) rfl rfl ?_
    refine w_p (pc1 := 66) rfl rfl ?_
    refine w_m0 (pc1 := 69) rfl rfl (h_gC rfl rfl rfl rfl) rfl ?_
    refine w_p (pc1 := 71) (st1 := .int 32 :: _) rfl rfl ?_
    refine w_p (pc1 := 72) rfl rfl ?_
    refine w_iadd (pc1 := 73) (u := nI (32)) (v := nI (g)) (z := nI (32 + g)) rfl (nK_add) rfl ?_
    refine w_m0 (pc1 := 74) rfl rfl (n_il (e := 32 + g) rfl rfl rfl (by omega)) rfl ?_
    refine w_m0 (pc1 := 75) rfl rfl (n_is (e := g) rfl rfl rfl (by omega)) rfl ?_
    refine w_p (pc1 := 295) rfl rfl ?_
    refine w_r rfl rfl rfl (fun _ _ => rfl) rfl ?_
    exact Or.inr ⟨rfl, ⟨_, ⟨c2, j2, g1, FS_I (FS_I F2 (sx_g hU (by omega)) (by omega)) (sx_g hU (by omega)) (by omega)⟩, rfl⟩, rfl⟩
set_option maxRecDepth 100000 in
theorem m_239_15 (hg : g < 8) (hU : U (32 + g)) (M : MS B n U V C0 C i nl) (R : RXM C sc none (some pp)) (S : SCM C sc) (hk : kd B n i = 15) : Wd L xs (d + 11) y_239 (0, [(0, .ref 176), (1, .int (nI g))], [], MH C t, 0) (PAC B n U V C0 C t g (rAct (tkP B n) sc pp ti i nl)) nX := by
  have M1 := MS_I (v := -1) M (sx_g (V := V) (k := 101) hU (by omega)) (by omega)
  have hr : rAct (tkP B n) sc pp ti i nl = rChg (tkP B n) sc (some pp) i nl := by
    unfold rAct
    rw [if_neg (by show ¬ kd B n i = 21; rw [hk]; decide), if_neg (by show ¬ kd B n i = 32; rw [hk]; decide)]
  rw [hr]
  refine w_p (pc1 := 1) rfl rfl ?_
  refine w_m0 (pc1 := 4) rfl rfl (h_gC rfl rfl rfl rfl) rfl ?_
  refine w_p (pc1 := 5) rfl rfl ?_
  refine w_p (pc1 := 6) (st1 := .int (-1) :: _) rfl rfl ?_
  refine w_m0 (pc1 := 7) rfl rfl (n_is (e := g) rfl rfl rfl (by omega)) rfl ?_
  refine w_p (pc1 := 8) rfl rfl ?_
  refine w_m0 (pc1 := 11) (st1 := .long 115923103347316 :: _) rfl rfl rfl rfl ?_
  refine w_je (pc1 := 14) (vs := [.ref 176, .long 115923103347316]) (rest := []) (st1 := [.int 0]) (m_205f (d := _) (sl := 0) ((wd_k (k := 18) M1.2.1 (by decide) (by decide)).trans (decide_eq_false (by rw [hk]; decide)))) rfl rfl rfl (fun _ _ => rfl) rfl (by exact cl_v my_205 rfl rfl rfl (Nat.le_of_ble_eq_true rfl) rfl (MH_obj rfl rfl) rfl (by decide) rfl rfl) (by rfl) (Nat.le_of_ble_eq_true rfl) (Nat.le_of_ble_eq_true rfl) rfl (by rfl) ?_
  refine w_f (a := 37) (b := 17) rfl rfl rfl ?_
  refine w_p (pc1 := 18) rfl rfl ?_
  refine w_m0 (pc1 := 21) (st1 := .long 129125580895333 :: _) rfl rfl rfl rfl ?_
  refine w_je (pc1 := 24) (vs := [.ref 176, .long 129125580895333]) (rest := []) (st1 := [.int 0]) (m_205f (d := _) (sl := 0) ((wd_k (k := 41) M1.2.1 (by decide) (by decide)).trans (decide_eq_false (by rw [hk]; decide)))) rfl rfl rfl (fun _ _ => rfl) rfl (by exact cl_v my_205 rfl rfl rfl (Nat.le_of_ble_eq_true rfl) rfl (MH_obj rfl rfl) rfl (by decide) rfl rfl) (by rfl) (Nat.le_of_ble_eq_true rfl) (Nat.le_of_ble_eq_true rfl) rfl (by rfl) ?_
  refine w_f (a := 37) (b := 27) rfl rfl rfl ?_
  refine w_p (pc1 := 28) rfl rfl ?_
  refine w_m0 (pc1 := 31) (st1 := .long 110386773062757 :: _) rfl rfl rfl rfl ?_
  refine w_je (pc1 := 34) (vs := [.ref 176, .long 110386773062757]) (rest := []) (st1 := [.int 1]) (m_205t (d := _) (sl := 0) ((wd_k (k := 15) M1.2.1 (by decide) (by decide)).trans (decide_eq_true hk))) rfl rfl rfl (fun _ _ => rfl) rfl (by exact cl_v my_205 rfl rfl rfl (Nat.le_of_ble_eq_true rfl) rfl (MH_obj rfl rfl) rfl (by decide) rfl rfl) (by rfl) (Nat.le_of_ble_eq_true rfl) (Nat.le_of_ble_eq_true rfl) rfl (by rfl) ?_
  refine w_f (a := 78) (b := 37) rfl rfl rfl ?_
  refine w_p (pc1 := 38) rfl rfl ?_
  refine w_p (pc1 := 40) (st1 := .int 32 :: _) rfl rfl ?_
  refine w_p (pc1 := 41) rfl rfl ?_
  refine w_iadd (pc1 := 42) (u := nI (32)) (v := nI (g)) (z := nI (32 + g)) rfl (nK_add) rfl ?_
  refine w_ji (pc1 := 45) (vs := [.ref 176, .int (nI (32 + g))]) (rest := []) (m_240_15 (d := _) (p := 32 + g) hU (by omega) M1 (RXM_1 R (by omega)) (SCM_1 S (by omega)) hk) rfl rfl rfl (fun _ _ => rfl) rfl (by exact cl_v my_240 rfl rfl rfl (Nat.le_of_ble_eq_true rfl) rfl (MH_obj rfl rfl) rfl (by decide) rfl rfl) (by rfl) (Nat.le_of_ble_eq_true rfl) (Nat.le_of_ble_eq_true rfl) rfl (fun v h1 d1 hq => ?_) (fun _ _ _ e => e.elim)
  rcases hq with ⟨hv, ⟨C2, ⟨a, i2, nl2, g1, g2, M2, A2, f2⟩, hh⟩, hn⟩ | ⟨hv, ⟨C2, ⟨c2, j2, g1, F2⟩, hh⟩, hn⟩
  · subst hv; subst hh; subst hn
    refine w_p (pc1 := 46) rfl rfl ?_
    refine w_m0 (pc1 := 49) rfl rfl (h_gC rfl rfl rfl rfl) rfl ?_
    refine w_p (pc1 := 50) rfl rfl ?_
    refine w_p (pc1 := 51) rfl rfl ?_
    refine w_m0 (pc1 := 54) rfl rfl (h_gC rfl rfl rfl rfl) rfl ?_
    refine w_p (pc1 := 56) (st1 := .int 32 :: _) rfl rfl ?_
    refine w_p (pc1 := 57) rfl rfl ?_
    refine w_iadd (pc1 := 58) (u := nI (32)) (v := nI (g)) (z := nI (32 + g)) rfl (nK_add) rfl ?_
    refine w_m0 (pc1 := 59) (st1 := .int (nI (aKd a)) :: _) rfl rfl (n_ile (e := 32 + g) rfl rfl rfl (by omega) (A2.1)) rfl ?_
    refine w_m0 (pc1 := 60) rfl rfl (n_is (e := g) rfl rfl rfl (by omega)) rfl ?_
    refine w_p (pc1 := 61) rfl rfl ?_
    refine w_m0 (pc1 := 64) rfl rfl (h_gC rfl rfl rfl rfl) rfl ?_
    refine w_p (pc1 := 65) rfl rfl ?_
    refine w_p (pc1 := 66) rfl rfl ?_
    refine w_m0 (pc1 := 69) rfl rfl (h_gC rfl rfl rfl rfl) rfl ?_
    refine w_p (pc1 := 71) (st1 := .int 32 :: _) rfl rfl ?_
    refine w_p (pc1 := 72) rfl rfl ?_
    refine w_iadd (pc1 := 73) (u := nI (32)) (v := nI (g)) (z := nI (32 + g)) rfl (nK_add) rfl ?_
    refine w_m0 (pc1 := 74) (st1 := .int (tgI (aTb a)) :: _) rfl rfl (n_ile (e := 32 + g) rfl rfl rfl (by omega) (by rw [sI_1, if_neg (by omega)]; exact A2.2.1)) rfl ?_
    refine w_m0 (pc1 := 75) rfl rfl (n_is (e := g) rfl rfl rfl (by omega)) rfl ?_
    refine w_p (pc1 := 295) rfl rfl ?_
    refine w_r rfl rfl rfl (fun _ _ => rfl) rfl ?_
    refine Or.inl ⟨rfl, ⟨_, ⟨a, i2, nl2, g1, g2, MS_I (MS_I M2 (sx_g hU (by omega)) (by omega)) (sx_g hU (by omega)) (by omega), ⟨?_, ?_, fun _ => ACM_o A2 (fun k j hj => by rw [sI_1, if_neg (by omega), sI_1, if_neg (by omega)]) (fun _ => rfl), fun c l h => ?_, fun h => ?_⟩, ?_⟩, rfl⟩, rfl⟩
    · rw [sI_1, if_neg (by omega), sI_1, if_pos ⟨rfl, rfl⟩]
    · rw [sI_1, if_pos ⟨rfl, rfl⟩]
    · exact absurd h (by have := rChg_k g1; omega)
    · exact absurd h (by have := rChg_k g1; omega)
    · exact fBy_t (fBy_I (by omega)) (fBy_t (fBy_A f2) (fBy_t (fBy_I (by omega)) (fBy_I (by omega))))
  · subst hv; subst hh; subst hn
    refine w_p (pc1 := 46) rfl rfl ?_
    refine w_m0 (pc1 := 49) rfl rfl (h_gC rfl rfl rfl rfl) rfl ?_
    refine w_p (pc1 := 50) rfl rfl ?_
    refine w_p (pc1 := 51) rfl rfl ?_
    refine w_m0 (pc1 := 54) rfl rfl (h_gC rfl rfl rfl rfl) rfl ?_
    refine w_p (pc1 := 56) (st1 := .int 32 :: _) rfl rfl ?_
    refine w_p (pc1 := 57) rfl rfl ?_
    refine w_iadd (pc1 := 58) (u := nI (32)) (v := nI (g)) (z := nI (32 + g)) rfl (nK_add) rfl ?_
    refine w_m0 (pc1 := 59) rfl rfl (n_il (e := 32 + g) rfl rfl rfl (by omega)) rfl ?_
    refine w_m0 (pc1 := 60) rfl rfl (n_is (e := g) rfl rfl rfl (by omega)) rfl ?_
    refine w_p (pc1 := 61) rfl rfl ?_
    refine w_m0 (pc1 := 64) rfl rfl (h_gC rfl rfl rfl rfl) rfl ?_
    refine w_p (pc1 := 65) rfl rfl ?_
    refine w_p (pc1 := 66) rfl rfl ?_
    refine w_m0 (pc1 := 69) rfl rfl (h_gC rfl rfl rfl rfl) rfl ?_
    refine w_p (pc1 := 71) (st1 := .int 32 :: _) rfl rfl ?_
    refine w_p (pc1 := 72) rfl rfl ?_
    refine w_iadd (pc1 := 73) (u := nI (32)) (v := nI (g)) (z := nI (32 + g)) rfl (nK_add) rfl ?_
    refine w_m0 (pc1 := 74) rfl rfl (n_il (e := 32 + g) rfl rfl rfl (by omega)) rfl ?_
    refine w_m0 (pc1 := 75) rfl rfl (n_is (e := g) rfl rfl rfl (by omega)) rfl ?_
    refine w_p (pc1 := 295) rfl rfl ?_
    refine w_r rfl rfl rfl (fun _ _ => rfl) rfl ?_
    exact Or.inr ⟨rfl, ⟨_, ⟨c2, j2, g1, FS_I (FS_I F2 (sx_g hU (by omega)) (by omega)) (sx_g hU (by omega)) (by omega)⟩, rfl⟩, rfl⟩
set_option maxRecDepth 100000 in
theorem m_239_32 (hg : g < 8) (hU : U (32 + g)) (M : MS B n U V C0 C i nl) (hk : kd B n i = 32) : Wd L xs (d + 11) y_239 (0, [(0, .ref 176), (1, .int (nI g))], [], MH C t, 0) (PAC B n U V C0 C t g (rAct (tkP B n) sc pp ti i nl)) nX := by
  have M1 := MS_I (v := -1) M (sx_g (V := V) (k := 101) hU (by omega)) (by omega)
  have M2 := MS_I (v := 4) M1 (sx_g (V := V) (k := 100) hU (by omega)) (by omega)
  have hr : rAct (tkP B n) sc pp ti i nl = rRai (tkP B n) i nl := by
    unfold rAct
    rw [if_neg (by show ¬ kd B n i = 21; rw [hk]; decide), if_pos (by show kd B n i = 32; exact hk)]
  rw [hr]
  by_cases h4 : kd B n (i + 1) = 4
  · have hx : rRai (tkP B n) i nl = .inr ((4, none, [], [], none, (vl B n (i + 1)).toInt32), i + 1 + 1, nl) := if_pos h4
    rw [hx]
    refine w_p (pc1 := 1) rfl rfl ?_
    refine w_m0 (pc1 := 4) rfl rfl (h_gC rfl rfl rfl rfl) rfl ?_
    refine w_p (pc1 := 5) rfl rfl ?_
    refine w_p (pc1 := 6) (st1 := .int (-1) :: _) rfl rfl ?_
    refine w_m0 (pc1 := 7) rfl rfl (n_is (e := g) rfl rfl rfl (by omega)) rfl ?_
    refine w_p (pc1 := 8) rfl rfl ?_
    refine w_m0 (pc1 := 11) (st1 := .long 115923103347316 :: _) rfl rfl rfl rfl ?_
    refine w_je (pc1 := 14) (vs := [.ref 176, .long 115923103347316]) (rest := []) (st1 := [.int 0]) (m_205f (d := _) (sl := 0) ((wd_k (k := 18) M1.2.1 (by decide) (by decide)).trans (decide_eq_false (by rw [hk]; decide)))) rfl rfl rfl (fun _ _ => rfl) rfl (by exact cl_v my_205 rfl rfl rfl (Nat.le_of_ble_eq_true rfl) rfl (MH_obj rfl rfl) rfl (by decide) rfl rfl) (by rfl) (Nat.le_of_ble_eq_true rfl) (Nat.le_of_ble_eq_true rfl) rfl (by rfl) ?_
    refine w_f (a := 37) (b := 17) rfl rfl rfl ?_
    refine w_p (pc1 := 18) rfl rfl ?_
    refine w_m0 (pc1 := 21) (st1 := .long 129125580895333 :: _) rfl rfl rfl rfl ?_
    refine w_je (pc1 := 24) (vs := [.ref 176, .long 129125580895333]) (rest := []) (st1 := [.int 0]) (m_205f (d := _) (sl := 0) ((wd_k (k := 41) M1.2.1 (by decide) (by decide)).trans (decide_eq_false (by rw [hk]; decide)))) rfl rfl rfl (fun _ _ => rfl) rfl (by exact cl_v my_205 rfl rfl rfl (Nat.le_of_ble_eq_true rfl) rfl (MH_obj rfl rfl) rfl (by decide) rfl rfl) (by rfl) (Nat.le_of_ble_eq_true rfl) (Nat.le_of_ble_eq_true rfl) rfl (by rfl) ?_
    refine w_f (a := 37) (b := 27) rfl rfl rfl ?_
    refine w_p (pc1 := 28) rfl rfl ?_
    refine w_m0 (pc1 := 31) (st1 := .long 110386773062757 :: _) rfl rfl rfl rfl ?_
    refine w_je (pc1 := 34) (vs := [.ref 176, .long 110386773062757]) (rest := []) (st1 := [.int 0]) (m_205f (d := _) (sl := 0) ((wd_k (k := 15) M1.2.1 (by decide) (by decide)).trans (decide_eq_false (by rw [hk]; decide)))) rfl rfl rfl (fun _ _ => rfl) rfl (by exact cl_v my_205 rfl rfl rfl (Nat.le_of_ble_eq_true rfl) rfl (MH_obj rfl rfl) rfl (by decide) rfl rfl) (by rfl) (Nat.le_of_ble_eq_true rfl) (Nat.le_of_ble_eq_true rfl) rfl (by rfl) ?_
    refine w_t (a := 78) (b := 37) rfl rfl rfl ?_
    refine w_p (pc1 := 79) rfl rfl ?_
    refine w_m0 (pc1 := 82) (st1 := .long 7103860 :: _) rfl rfl rfl rfl ?_
    refine w_je (pc1 := 85) (vs := [.ref 176, .long 7103860]) (rest := []) (st1 := [.int 0]) (m_205f (d := _) (sl := 0) ((wd_k (k := 21) M1.2.1 (by decide) (by decide)).trans (decide_eq_false (by rw [hk]; decide)))) rfl rfl rfl (fun _ _ => rfl) rfl (by exact cl_v my_205 rfl rfl rfl (Nat.le_of_ble_eq_true rfl) rfl (MH_obj rfl rfl) rfl (by decide) rfl rfl) (by rfl) (Nat.le_of_ble_eq_true rfl) (Nat.le_of_ble_eq_true rfl) rfl (by rfl) ?_
    refine w_t (a := 225) (b := 88) rfl rfl rfl ?_
    refine w_p (pc1 := 226) rfl rfl ?_
    refine w_m0 (pc1 := 229) (st1 := .long 491260572517 :: _) rfl rfl rfl rfl ?_
    refine w_je (pc1 := 232) (vs := [.ref 176, .long 491260572517]) (rest := []) (st1 := [.int 1]) (m_205t (d := _) (sl := 0) ((wd_k (k := 32) M1.2.1 (by decide) (by decide)).trans (decide_eq_true hk))) rfl rfl rfl (fun _ _ => rfl) rfl (by exact cl_v my_205 rfl rfl rfl (Nat.le_of_ble_eq_true rfl) rfl (MH_obj rfl rfl) rfl (by decide) rfl rfl) (by rfl) (Nat.le_of_ble_eq_true rfl) (Nat.le_of_ble_eq_true rfl) rfl (by rfl) ?_
    refine w_f (a := 290) (b := 235) rfl rfl rfl ?_
    refine w_p (pc1 := 236) rfl rfl ?_
    refine w_m0 (pc1 := 239) rfl rfl (h_gC rfl rfl rfl rfl) rfl ?_
    refine w_p (pc1 := 240) rfl rfl ?_
    refine w_p (pc1 := 241) (st1 := .int 4 :: _) rfl rfl ?_
    refine w_m0 (pc1 := 242) rfl rfl (n_is (e := g) rfl rfl rfl (by omega)) rfl ?_
    refine w_p (pc1 := 243) rfl rfl ?_
    refine w_ji (pc1 := 246) (vs := [.ref 176]) (rest := []) (nS (d := _) M2 (by rw [hk]; decide)) rfl rfl rfl (fun _ _ => rfl) rfl (by exact cl_v my_195 rfl rfl rfl (Nat.le_of_ble_eq_true rfl) rfl (MH_obj rfl rfl) rfl (by decide) rfl rfl) (by rfl) (Nat.le_of_ble_eq_true rfl) (Nat.le_of_ble_eq_true rfl) rfl (fun v h1 d1 hq => ?_) (fun _ _ _ e => e.elim)
    rcases hq with ⟨hv, ⟨C3, ⟨g3, M3, f3⟩, hh⟩, hn⟩ | ⟨hv, ⟨C3, ⟨g3, F3, f3⟩, hh⟩, hn⟩
    · subst hv; subst hh; subst hn
      refine w_p (pc1 := 247) rfl rfl ?_
      refine w_m0 (pc1 := 250) rfl rfl (h_gI (j := 8) rfl rfl rfl rfl rfl) rfl ?_
      refine w_f (a := 266) (b := 253) (cb_ne_f (by exact M3.2.1.2.1)) rfl rfl ?_
      refine w_p (pc1 := 254) rfl rfl ?_
      refine w_m0 (pc1 := 257) rfl rfl (h_gI (j := 4) rfl rfl rfl rfl rfl) rfl ?_
      refine w_p (pc1 := 258) (st1 := .int 2 :: _) rfl rfl ?_
      refine w_t (a := 266) (b := 261) (cb_eq_t (by exact (nm_k M3.2.1).2.1.mpr h4)) rfl rfl ?_
      refine w_p (pc1 := 267) rfl rfl ?_
      refine w_m0 (pc1 := 270) rfl rfl (h_gC rfl rfl rfl rfl) rfl ?_
      refine w_p (pc1 := 271) rfl rfl ?_
      refine w_p (pc1 := 272) rfl rfl ?_
      refine w_m0 (pc1 := 275) (st1 := .long (vl B n (i + 1)) :: _) rfl rfl (h_gJe (j := 7) rfl rfl rfl rfl rfl (by rw [M3.2.1.2.2.2.1, h4]; rfl)) rfl ?_
      refine w_m0 (pc1 := 276) rfl rfl (n_ls (e := g) rfl rfl rfl (by omega)) rfl ?_
      refine w_p (pc1 := 277) rfl rfl ?_
      refine w_m0 (pc1 := 280) rfl rfl (h_gI (j := 8) rfl rfl rfl rfl rfl) rfl ?_
      refine w_f (a := 295) (b := 283) (cb_ne_f (by exact M3.2.1.2.1)) rfl rfl ?_
      refine w_p (pc1 := 284) rfl rfl ?_
      refine w_ji (pc1 := 287) (vs := [.ref 176]) (rest := []) (nS (d := _) (MS_J (v := vl B n (i + 1)) M3 (sj_g hU) (by omega)) (by rw [h4]; decide)) rfl rfl rfl (fun _ _ => rfl) rfl (by exact cl_v my_195 rfl rfl rfl (Nat.le_of_ble_eq_true rfl) rfl (MH_obj rfl rfl) rfl (by decide) rfl rfl) (by rfl) (Nat.le_of_ble_eq_true rfl) (Nat.le_of_ble_eq_true rfl) rfl (fun v h1 d1 hq => ?_) (fun _ _ _ e => e.elim)
      rcases hq with ⟨hv, ⟨C5, ⟨g5, M5, f5⟩, hh⟩, hn⟩ | ⟨hv, ⟨C5, ⟨g5, F5, f5⟩, hh⟩, hn⟩
      · subst hv; subst hh; subst hn
        refine w_p (pc1 := 295) rfl rfl ?_
        refine w_r rfl rfl rfl (fun _ _ => rfl) rfl ?_
        have g1 : C3.1 100 g = 4 := by rw [f3.1 100 g (by omega), sI_1, if_pos ⟨rfl, rfl⟩]
        have g2 : C3.1 101 g = -1 := by rw [f3.1 101 g (by omega), sI_1, if_neg (by omega), sI_1, if_pos ⟨rfl, rfl⟩]
        refine Or.inl ⟨rfl, ⟨_, ⟨_, _, _, rfl, g5, M5, ⟨(f5.1 100 g (by omega)).trans g1, (f5.1 101 g (by omega)).trans g2, fun h => ?_, fun c l h => ?_, fun _ => ?_⟩, ?_⟩, rfl⟩, rfl⟩
        · exact absurd h (by show ¬ 4 < 3; decide)
        · cases h
        · rw [f5.2.1 103 g (by omega), sJ_2, if_pos ⟨rfl, rfl⟩]
          rfl
        · exact fBy_t (fBy_I (by omega)) (fBy_t (fBy_I (by omega)) (fBy_t (fBy_T f3) (fBy_t fBy_J (fBy_T f5))))
      · subst hv; subst hh; subst hn
        refine w_p (pc1 := 295) rfl rfl ?_
        refine w_r rfl rfl rfl (fun _ _ => rfl) rfl ?_
        exact Or.inr ⟨rfl, ⟨_, ⟨1, i + 1 + 1, flS_e rfl rfl g5, F5⟩, rfl⟩, rfl⟩
    · subst hv; subst hh; subst hn
      refine w_p (pc1 := 247) rfl rfl ?_
      refine w_m0 (pc1 := 250) rfl rfl (h_gI (j := 8) rfl rfl rfl rfl rfl) rfl ?_
      refine w_t (a := 266) (b := 253) (cb_ne_t (by exact FS_0 F3)) rfl rfl ?_
      refine w_p (pc1 := 267) rfl rfl ?_
      refine w_m0 (pc1 := 270) rfl rfl (h_gC rfl rfl rfl rfl) rfl ?_
      refine w_p (pc1 := 271) rfl rfl ?_
      refine w_p (pc1 := 272) rfl rfl ?_
      refine w_m0 (pc1 := 275) rfl rfl (h_gJ (j := 7) rfl rfl rfl rfl rfl) rfl ?_
      refine w_m0 (pc1 := 276) rfl rfl (n_ls (e := g) rfl rfl rfl (by omega)) rfl ?_
      refine w_p (pc1 := 277) rfl rfl ?_
      refine w_m0 (pc1 := 280) rfl rfl (h_gI (j := 8) rfl rfl rfl rfl rfl) rfl ?_
      refine w_t (a := 295) (b := 283) (cb_ne_t (by exact FS_0 (FS_J F3 (sj_g hU)))) rfl rfl ?_
      refine w_r rfl rfl rfl (fun _ _ => rfl) rfl ?_
      exact absurd h4 (by rw [g3]; decide)
  · have hx : rRai (tkP B n) i nl = .inl (2, i + 1) := if_neg h4
    rw [hx]
    refine w_p (pc1 := 1) rfl rfl ?_
    refine w_m0 (pc1 := 4) rfl rfl (h_gC rfl rfl rfl rfl) rfl ?_
    refine w_p (pc1 := 5) rfl rfl ?_
    refine w_p (pc1 := 6) (st1 := .int (-1) :: _) rfl rfl ?_
    refine w_m0 (pc1 := 7) rfl rfl (n_is (e := g) rfl rfl rfl (by omega)) rfl ?_
    refine w_p (pc1 := 8) rfl rfl ?_
    refine w_m0 (pc1 := 11) (st1 := .long 115923103347316 :: _) rfl rfl rfl rfl ?_
    refine w_je (pc1 := 14) (vs := [.ref 176, .long 115923103347316]) (rest := []) (st1 := [.int 0]) (m_205f (d := _) (sl := 0) ((wd_k (k := 18) M1.2.1 (by decide) (by decide)).trans (decide_eq_false (by rw [hk]; decide)))) rfl rfl rfl (fun _ _ => rfl) rfl (by exact cl_v my_205 rfl rfl rfl (Nat.le_of_ble_eq_true rfl) rfl (MH_obj rfl rfl) rfl (by decide) rfl rfl) (by rfl) (Nat.le_of_ble_eq_true rfl) (Nat.le_of_ble_eq_true rfl) rfl (by rfl) ?_
    refine w_f (a := 37) (b := 17) rfl rfl rfl ?_
    refine w_p (pc1 := 18) rfl rfl ?_
    refine w_m0 (pc1 := 21) (st1 := .long 129125580895333 :: _) rfl rfl rfl rfl ?_
    refine w_je (pc1 := 24) (vs := [.ref 176, .long 129125580895333]) (rest := []) (st1 := [.int 0]) (m_205f (d := _) (sl := 0) ((wd_k (k := 41) M1.2.1 (by decide) (by decide)).trans (decide_eq_false (by rw [hk]; decide)))) rfl rfl rfl (fun _ _ => rfl) rfl (by exact cl_v my_205 rfl rfl rfl (Nat.le_of_ble_eq_true rfl) rfl (MH_obj rfl rfl) rfl (by decide) rfl rfl) (by rfl) (Nat.le_of_ble_eq_true rfl) (Nat.le_of_ble_eq_true rfl) rfl (by rfl) ?_
    refine w_f (a := 37) (b := 27) rfl rfl rfl ?_
    refine w_p (pc1 := 28) rfl rfl ?_
    refine w_m0 (pc1 := 31) (st1 := .long 110386773062757 :: _) rfl rfl rfl rfl ?_
    refine w_je (pc1 := 34) (vs := [.ref 176, .long 110386773062757]) (rest := []) (st1 := [.int 0]) (m_205f (d := _) (sl := 0) ((wd_k (k := 15) M1.2.1 (by decide) (by decide)).trans (decide_eq_false (by rw [hk]; decide)))) rfl rfl rfl (fun _ _ => rfl) rfl (by exact cl_v my_205 rfl rfl rfl (Nat.le_of_ble_eq_true rfl) rfl (MH_obj rfl rfl) rfl (by decide) rfl rfl) (by rfl) (Nat.le_of_ble_eq_true rfl) (Nat.le_of_ble_eq_true rfl) rfl (by rfl) ?_
    refine w_t (a := 78) (b := 37) rfl rfl rfl ?_
    refine w_p (pc1 := 79) rfl rfl ?_
    refine w_m0 (pc1 := 82) (st1 := .long 7103860 :: _) rfl rfl rfl rfl ?_
    refine w_je (pc1 := 85) (vs := [.ref 176, .long 7103860]) (rest := []) (st1 := [.int 0]) (m_205f (d := _) (sl := 0) ((wd_k (k := 21) M1.2.1 (by decide) (by decide)).trans (decide_eq_false (by rw [hk]; decide)))) rfl rfl rfl (fun _ _ => rfl) rfl (by exact cl_v my_205 rfl rfl rfl (Nat.le_of_ble_eq_true rfl) rfl (MH_obj rfl rfl) rfl (by decide) rfl rfl) (by rfl) (Nat.le_of_ble_eq_true rfl) (Nat.le_of_ble_eq_true rfl) rfl (by rfl) ?_
    refine w_t (a := 225) (b := 88) rfl rfl rfl ?_
    refine w_p (pc1 := 226) rfl rfl ?_
    refine w_m0 (pc1 := 229) (st1 := .long 491260572517 :: _) rfl rfl rfl rfl ?_
    refine w_je (pc1 := 232) (vs := [.ref 176, .long 491260572517]) (rest := []) (st1 := [.int 1]) (m_205t (d := _) (sl := 0) ((wd_k (k := 32) M1.2.1 (by decide) (by decide)).trans (decide_eq_true hk))) rfl rfl rfl (fun _ _ => rfl) rfl (by exact cl_v my_205 rfl rfl rfl (Nat.le_of_ble_eq_true rfl) rfl (MH_obj rfl rfl) rfl (by decide) rfl rfl) (by rfl) (Nat.le_of_ble_eq_true rfl) (Nat.le_of_ble_eq_true rfl) rfl (by rfl) ?_
    refine w_f (a := 290) (b := 235) rfl rfl rfl ?_
    refine w_p (pc1 := 236) rfl rfl ?_
    refine w_m0 (pc1 := 239) rfl rfl (h_gC rfl rfl rfl rfl) rfl ?_
    refine w_p (pc1 := 240) rfl rfl ?_
    refine w_p (pc1 := 241) (st1 := .int 4 :: _) rfl rfl ?_
    refine w_m0 (pc1 := 242) rfl rfl (n_is (e := g) rfl rfl rfl (by omega)) rfl ?_
    refine w_p (pc1 := 243) rfl rfl ?_
    refine w_ji (pc1 := 246) (vs := [.ref 176]) (rest := []) (nS (d := _) M2 (by rw [hk]; decide)) rfl rfl rfl (fun _ _ => rfl) rfl (by exact cl_v my_195 rfl rfl rfl (Nat.le_of_ble_eq_true rfl) rfl (MH_obj rfl rfl) rfl (by decide) rfl rfl) (by rfl) (Nat.le_of_ble_eq_true rfl) (Nat.le_of_ble_eq_true rfl) rfl (fun v h1 d1 hq => ?_) (fun _ _ _ e => e.elim)
    rcases hq with ⟨hv, ⟨C3, ⟨g3, M3, f3⟩, hh⟩, hn⟩ | ⟨hv, ⟨C3, ⟨g3, F3, f3⟩, hh⟩, hn⟩
    · subst hv; subst hh; subst hn
      refine w_p (pc1 := 247) rfl rfl ?_
      refine w_m0 (pc1 := 250) rfl rfl (h_gI (j := 8) rfl rfl rfl rfl rfl) rfl ?_
      refine w_f (a := 266) (b := 253) (cb_ne_f (by exact M3.2.1.2.1)) rfl rfl ?_
      refine w_p (pc1 := 254) rfl rfl ?_
      refine w_m0 (pc1 := 257) rfl rfl (h_gI (j := 4) rfl rfl rfl rfl rfl) rfl ?_
      refine w_p (pc1 := 258) (st1 := .int 2 :: _) rfl rfl ?_
      refine w_f (a := 266) (b := 261) (cb_eq_f (by exact fun e => h4 ((nm_k M3.2.1).2.1.mp e))) rfl rfl ?_
      refine w_p (pc1 := 262) rfl rfl ?_
      refine w_p (pc1 := 263) (st1 := .int 2 :: _) rfl rfl ?_
      refine w_je (pc1 := 266) (vs := [.ref 176, .int 2]) (rest := []) (st1 := []) (m_200 (d := _) (sl := 0) (fun z => absurd M3.2.1.2.1 z)) rfl rfl rfl (fun _ _ => rfl) rfl (by exact cl_v my_200 rfl rfl rfl (Nat.le_of_ble_eq_true rfl) rfl (MH_obj rfl rfl) rfl (by decide) rfl rfl) (by rfl) (Nat.le_of_ble_eq_true rfl) (Nat.le_of_ble_eq_true rfl) rfl (by rfl) ?_
      refine w_p (pc1 := 267) rfl rfl ?_
      refine w_m0 (pc1 := 270) rfl rfl (h_gC rfl rfl rfl rfl) rfl ?_
      refine w_p (pc1 := 271) rfl rfl ?_
      refine w_p (pc1 := 272) rfl rfl ?_
      refine w_m0 (pc1 := 275) rfl rfl (h_gJ (j := 7) rfl rfl rfl rfl rfl) rfl ?_
      refine w_m0 (pc1 := 276) rfl rfl (n_ls (e := g) rfl rfl rfl (by omega)) rfl ?_
      refine w_p (pc1 := 277) rfl rfl ?_
      refine w_m0 (pc1 := 280) rfl rfl (h_gI (j := 8) rfl rfl rfl rfl rfl) rfl ?_
      refine w_t (a := 295) (b := 283) (cb_ne_t (by exact FS_0 (FS_J (FS_new (c := 2) M3 (by decide)) (sj_g hU)))) rfl rfl ?_
      refine w_r rfl rfl rfl (fun _ _ => rfl) rfl ?_
      exact Or.inr ⟨rfl, ⟨_, ⟨2, i + 1, flS_n rfl g3, FS_J (FS_new (c := 2) M3 (by decide)) (sj_g hU)⟩, rfl⟩, rfl⟩
    · subst hv; subst hh; subst hn
      refine w_p (pc1 := 247) rfl rfl ?_
      refine w_m0 (pc1 := 250) rfl rfl (h_gI (j := 8) rfl rfl rfl rfl rfl) rfl ?_
      refine w_t (a := 266) (b := 253) (cb_ne_t (by exact FS_0 F3)) rfl rfl ?_
      refine w_p (pc1 := 267) rfl rfl ?_
      refine w_m0 (pc1 := 270) rfl rfl (h_gC rfl rfl rfl rfl) rfl ?_
      refine w_p (pc1 := 271) rfl rfl ?_
      refine w_p (pc1 := 272) rfl rfl ?_
      refine w_m0 (pc1 := 275) rfl rfl (h_gJ (j := 7) rfl rfl rfl rfl rfl) rfl ?_
      refine w_m0 (pc1 := 276) rfl rfl (n_ls (e := g) rfl rfl rfl (by omega)) rfl ?_
      refine w_p (pc1 := 277) rfl rfl ?_
      refine w_m0 (pc1 := 280) rfl rfl (h_gI (j := 8) rfl rfl rfl rfl rfl) rfl ?_
      refine w_t (a := 295) (b := 283) (cb_ne_t (by exact FS_0 (FS_J F3 (sj_g hU)))) rfl rfl ?_
      refine w_r rfl rfl rfl (fun _ _ => rfl) rfl ?_
      exact Or.inr ⟨rfl, ⟨_, ⟨1, i + 1, flS_1 ⟨2, rfl⟩ g3, FS_J F3 (sj_g hU)⟩, rfl⟩, rfl⟩
set_option maxRecDepth 100000 in
theorem m_239_n (hg : g < 8) (hU : U (32 + g)) (M : MS B n U V C0 C i nl) (h18 : kd B n i ≠ 18) (h41 : kd B n i ≠ 41) (h15 : kd B n i ≠ 15) (h21 : kd B n i ≠ 21) (h32 : kd B n i ≠ 32) : Wd L xs (d + 11) y_239 (0, [(0, .ref 176), (1, .int (nI g))], [], MH C t, 0) (PAC B n U V C0 C t g (rAct (tkP B n) sc pp ti i nl)) nX := by
  have M1 := MS_I (v := -1) M (sx_g (V := V) (k := 101) hU (by omega)) (by omega)
  have hr : rAct (tkP B n) sc pp ti i nl = .inl (2, i) := by
    unfold rAct
    rw [if_neg (by show ¬ kd B n i = 21; exact h21), if_neg (by show ¬ kd B n i = 32; exact h32)]
    unfold rChg rEvt
    have : evt ((tkP B n).1 i) = none := by
      show evt (kd B n i) = none
      unfold evt
      rw [if_neg h18, if_neg h41, if_neg h15]
    rw [this]
    rfl
  rw [hr]
  refine w_p (pc1 := 1) rfl rfl ?_
  refine w_m0 (pc1 := 4) rfl rfl (h_gC rfl rfl rfl rfl) rfl ?_
  refine w_p (pc1 := 5) rfl rfl ?_
  refine w_p (pc1 := 6) (st1 := .int (-1) :: _) rfl rfl ?_
  refine w_m0 (pc1 := 7) rfl rfl (n_is (e := g) rfl rfl rfl (by omega)) rfl ?_
  refine w_p (pc1 := 8) rfl rfl ?_
  refine w_m0 (pc1 := 11) (st1 := .long 115923103347316 :: _) rfl rfl rfl rfl ?_
  refine w_je (pc1 := 14) (vs := [.ref 176, .long 115923103347316]) (rest := []) (st1 := [.int 0]) (m_205f (d := _) (sl := 0) ((wd_k (k := 18) M1.2.1 (by decide) (by decide)).trans (decide_eq_false h18))) rfl rfl rfl (fun _ _ => rfl) rfl (by exact cl_v my_205 rfl rfl rfl (Nat.le_of_ble_eq_true rfl) rfl (MH_obj rfl rfl) rfl (by decide) rfl rfl) (by rfl) (Nat.le_of_ble_eq_true rfl) (Nat.le_of_ble_eq_true rfl) rfl (by rfl) ?_
  refine w_f (a := 37) (b := 17) rfl rfl rfl ?_
  refine w_p (pc1 := 18) rfl rfl ?_
  refine w_m0 (pc1 := 21) (st1 := .long 129125580895333 :: _) rfl rfl rfl rfl ?_
  refine w_je (pc1 := 24) (vs := [.ref 176, .long 129125580895333]) (rest := []) (st1 := [.int 0]) (m_205f (d := _) (sl := 0) ((wd_k (k := 41) M1.2.1 (by decide) (by decide)).trans (decide_eq_false h41))) rfl rfl rfl (fun _ _ => rfl) rfl (by exact cl_v my_205 rfl rfl rfl (Nat.le_of_ble_eq_true rfl) rfl (MH_obj rfl rfl) rfl (by decide) rfl rfl) (by rfl) (Nat.le_of_ble_eq_true rfl) (Nat.le_of_ble_eq_true rfl) rfl (by rfl) ?_
  refine w_f (a := 37) (b := 27) rfl rfl rfl ?_
  refine w_p (pc1 := 28) rfl rfl ?_
  refine w_m0 (pc1 := 31) (st1 := .long 110386773062757 :: _) rfl rfl rfl rfl ?_
  refine w_je (pc1 := 34) (vs := [.ref 176, .long 110386773062757]) (rest := []) (st1 := [.int 0]) (m_205f (d := _) (sl := 0) ((wd_k (k := 15) M1.2.1 (by decide) (by decide)).trans (decide_eq_false h15))) rfl rfl rfl (fun _ _ => rfl) rfl (by exact cl_v my_205 rfl rfl rfl (Nat.le_of_ble_eq_true rfl) rfl (MH_obj rfl rfl) rfl (by decide) rfl rfl) (by rfl) (Nat.le_of_ble_eq_true rfl) (Nat.le_of_ble_eq_true rfl) rfl (by rfl) ?_
  refine w_t (a := 78) (b := 37) rfl rfl rfl ?_
  refine w_p (pc1 := 79) rfl rfl ?_
  refine w_m0 (pc1 := 82) (st1 := .long 7103860 :: _) rfl rfl rfl rfl ?_
  refine w_je (pc1 := 85) (vs := [.ref 176, .long 7103860]) (rest := []) (st1 := [.int 0]) (m_205f (d := _) (sl := 0) ((wd_k (k := 21) M1.2.1 (by decide) (by decide)).trans (decide_eq_false h21))) rfl rfl rfl (fun _ _ => rfl) rfl (by exact cl_v my_205 rfl rfl rfl (Nat.le_of_ble_eq_true rfl) rfl (MH_obj rfl rfl) rfl (by decide) rfl rfl) (by rfl) (Nat.le_of_ble_eq_true rfl) (Nat.le_of_ble_eq_true rfl) rfl (by rfl) ?_
  refine w_t (a := 225) (b := 88) rfl rfl rfl ?_
  refine w_p (pc1 := 226) rfl rfl ?_
  refine w_m0 (pc1 := 229) (st1 := .long 491260572517 :: _) rfl rfl rfl rfl ?_
  refine w_je (pc1 := 232) (vs := [.ref 176, .long 491260572517]) (rest := []) (st1 := [.int 0]) (m_205f (d := _) (sl := 0) ((wd_k (k := 32) M1.2.1 (by decide) (by decide)).trans (decide_eq_false h32))) rfl rfl rfl (fun _ _ => rfl) rfl (by exact cl_v my_205 rfl rfl rfl (Nat.le_of_ble_eq_true rfl) rfl (MH_obj rfl rfl) rfl (by decide) rfl rfl) (by rfl) (Nat.le_of_ble_eq_true rfl) (Nat.le_of_ble_eq_true rfl) rfl (by rfl) ?_
  refine w_t (a := 290) (b := 235) rfl rfl rfl ?_
  refine w_p (pc1 := 291) rfl rfl ?_
  refine w_p (pc1 := 292) (st1 := .int 2 :: _) rfl rfl ?_
  refine w_je (pc1 := 295) (vs := [.ref 176, .int 2]) (rest := []) (st1 := []) (m_200 (d := _) (sl := 0) (fun z => absurd M1.2.1.2.1 z)) rfl rfl rfl (fun _ _ => rfl) rfl (by exact cl_v my_200 rfl rfl rfl (Nat.le_of_ble_eq_true rfl) rfl (MH_obj rfl rfl) rfl (by decide) rfl rfl) (by rfl) (Nat.le_of_ble_eq_true rfl) (Nat.le_of_ble_eq_true rfl) rfl (by rfl) ?_
  refine w_r rfl rfl rfl (fun _ _ => rfl) rfl ?_
  exact Or.inr ⟨rfl, ⟨_, ⟨2, i, flS_n rfl M.2.1.1, FS_new M1 (by decide)⟩, rfl⟩, rfl⟩
end MSE
