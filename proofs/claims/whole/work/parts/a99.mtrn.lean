
/-! THE OTHER SIDE READS STATEMENTS, 14: a trigger, its name -/
section MSJ
variable {L : Nat} {xs : Nat → Int32} {B : Nat → Nat} {n : Nat} {C C' C0 C1 : co_T} {t : ab_H} {d i i0 i1 j b e p k w q : Nat} {U V : Nat → Prop} {c : Int32} {sc : sc_T} {row : Option Nat} {tg : Option (Nat × Nat)} {nl : Option Nat} {E : fe_T} {tr : Nat → Option tr_T}
variable {g ti a : Nat} {nm : Int64} {P : Option Value → ab_H → Nat → Prop}
def TGM (C : co_T) (tr : Nat → Option tr_T) : Prop := ∀ i, i < 8 → opM (TRM C i) (C.1 95 i) (tr i)
set_option maxRecDepth 100000 in
theorem TRM_o {G : tr_T} (H : TRM C g G) (h1 : ∀ k j, k = 106 ∨ (97 ≤ k ∧ k ≤ 104) ∨ (110 ≤ k ∧ k ≤ 113) → C'.1 k j = C.1 k j) (h2 : ∀ k j, k = 96 ∨ k = 103 ∨ k = 107 → C'.2.1 k j = C.2.1 k j) : TRM C' g G := by
  obtain ⟨⟨a1, a2, a3, a4, a5, a6⟩, b1, b2, b3, b4⟩ := H
  have e6 : ∀ j, C'.1 106 j = C.1 106 j := fun j => h1 106 j (by omega)
  have e7 : ∀ j, C'.2.1 107 j = C.2.1 107 j := fun j => h2 107 j (by omega)
  refine ⟨⟨(h1 97 g (by omega)).trans a1, (h1 98 g (by omega)).trans a2, (h1 99 g (by omega)).trans a3, (h1 100 g (by omega)).trans a4, (h1 101 g (by omega)).trans a5, (h2 96 g (by omega)).trans a6⟩, ?_, fun e => ACM_o (b2 e) (fun k j hk => h1 k j (by omega)) e7, fun c l u1 u2 u3 => ⟨(h1 102 g (by omega)).trans (b3 c l u1 u2 u3).1, (h1 113 _ (by omega)).trans (b3 c l u1 u2 u3).2.1, foM_o (b3 c l u1 u2 u3).2.2 e6 e7⟩, fun e => by rw [h2 103 g (by omega)]; exact b4 e⟩
  cases e : gWh G with
  | none =>
    rw [e] at b1
    exact (h1 104 g (by omega)).trans b1
  | some O =>
    rw [e] at b1
    exact ⟨(h1 104 g (by omega)).trans b1.1, (h1 113 _ (by omega)).trans b1.2.1, foM_o b1.2.2 e6 e7⟩
set_option maxRecDepth 100000 in
theorem TGM_T (H : TGM C tr) (f : frT C C') : TGM C' tr := fun i hi => opM_m (fun u hu => TRM_o hu (fun k j hk => f.1 k j (by omega)) (fun k j hk => f.2.1 k j (by omega))) (f.1 95 i (by omega)) (H i hi)
set_option maxRecDepth 100000 in
theorem trF_M (H : TGM C tr) (v : Int64) : fnd (fun j => decide (C.1 95 j ≠ 0) && decide (C.2.1 96 j = v)) 8 0 = trF tr v := fnd_c 8 0 (fun j _ hj => by
  show (decide (C.1 95 j ≠ 0) && decide (C.2.1 96 j = v)) = trP tr v j
  have h := H j (by omega)
  unfold trP
  cases e : tr j with
  | none =>
    rw [e] at h
    have h : C.1 95 j = 0 := h
    rw [h]
    rfl
  | some G =>
    rw [e] at h
    obtain ⟨h1, h2⟩ := h
    rw [h1, h2.1.2.2.2.2.2]
    rfl)
set_option maxRecDepth 100000 in
theorem trN_M (H : TGM C tr) : fnd (fun j => decide (C.1 95 j = 0)) 8 0 = trN tr := fnd_c 8 0 (fun j _ hj => by
  show decide (C.1 95 j = 0) = (tr j).isNone
  have h := H j (by omega)
  cases e : tr j with
  | none =>
    rw [e] at h
    have h : C.1 95 j = 0 := h
    rw [h]
    rfl
  | some G =>
    rw [e] at h
    obtain ⟨h1, h2⟩ := h
    rw [h1]
    rfl)
set_option maxRecDepth 100000 in
theorem lp_236 (H : ∀ q, q ≤ 8 → (q < 8 → C.1 95 q = 0 ∧ fnd (fun j => decide (C.1 95 j = 0)) 8 0 = nI q) → (q = 8 → fnd (fun j => decide (C.1 95 j = 0)) 8 0 = -1) → Wd L xs d y_236 (35, [(1, .int (nI q)), (0, .ref 176)], [], MH C t, 0) P nX) : ∀ m k : Nat, k + m = 8 → fnd (fun j => decide (C.1 95 j = 0)) m k = fnd (fun j => decide (C.1 95 j = 0)) 8 0 → Wd L xs d y_236 (14, [(1, .int (nI k)), (0, .ref 176)], [], MH C t, 0) P nX
  | 0, k, hk, he => by
    obtain rfl : k = 8 := by omega
    refine w_p (pc1 := 15) rfl rfl ?_
    refine w_p (pc1 := 17) (st1 := .int 8 :: _) rfl rfl ?_
    refine w_t (a := 35) (b := 20) rfl rfl rfl ?_
    exact H 8 (by omega) (fun h => absurd h (by decide)) (fun _ => he.symm)
  | m + 1, k, hk, he => by
    by_cases h1 : C.1 95 k = 0
    · have e : fnd (fun j => decide (C.1 95 j = 0)) (m + 1) k = nI k := by rw [fnd, decide_eq_true h1, cond_true]
      refine w_p (pc1 := 15) rfl rfl ?_
      refine w_p (pc1 := 17) (st1 := .int 8 :: _) rfl rfl ?_
      refine w_f (a := 35) (b := 20) (bN_ge_f (a := k) (b := 8) (by omega) (by omega) (by omega)) rfl rfl ?_
      refine w_p (pc1 := 21) rfl rfl ?_
      refine w_m0 (pc1 := 24) rfl rfl (h_gC rfl rfl rfl rfl) rfl ?_
      refine w_p (pc1 := 25) rfl rfl ?_
      refine w_m0 (pc1 := 26) rfl rfl (n_bl (e := k) rfl rfl (by decide) rfl (by omega)) rfl ?_
      refine w_t (a := 35) (b := 29) (cb_eq_t (by exact h1)) rfl rfl ?_
      exact H k (by omega) (fun _ => ⟨h1, he.symm.trans e⟩) (fun h => by omega)
    · have e : fnd (fun j => decide (C.1 95 j = 0)) (m + 1) k = fnd (fun j => decide (C.1 95 j = 0)) m (k + 1) := by rw [fnd, decide_eq_false h1, cond_false]
      refine w_p (pc1 := 15) rfl rfl ?_
      refine w_p (pc1 := 17) (st1 := .int 8 :: _) rfl rfl ?_
      refine w_f (a := 35) (b := 20) (bN_ge_f (a := k) (b := 8) (by omega) (by omega) (by omega)) rfl rfl ?_
      refine w_p (pc1 := 21) rfl rfl ?_
      refine w_m0 (pc1 := 24) rfl rfl (h_gC rfl rfl rfl rfl) rfl ?_
      refine w_p (pc1 := 25) rfl rfl ?_
      refine w_m0 (pc1 := 26) rfl rfl (n_bl (e := k) rfl rfl (by decide) rfl (by omega)) rfl ?_
      refine w_f (a := 35) (b := 29) (cb_eq_f (by exact h1)) rfl rfl ?_
      refine w_iinc (pc1 := 32) (u := nI (k)) (z := nI (k + 1)) (al1 := [(1, .int (nI (k + 1))), (0, .ref 176)]) rfl rfl rfl nK_1 rfl rfl ?_
      refine w_p (pc1 := 14) rfl rfl ?_
      exact lp_236 H m (k + 1) (by omega) (e.symm.trans he)
def PTQ (B : Nat → Nat) (n : Nat) (U V : Nat → Prop) (C0 : co_T) (t : ab_H) (tr : Nat → Option tr_T) (r : pz_T (tr_T × Nat × Option Nat)) : Option Value → ab_H → Nat → Prop := fun v h m => (∃ g, none = v ∧ (∃ C', (∃ G i' nl', r = .inr (G, i', nl') ∧ (g < 8 ∧ trN tr = nI g) ∧ kd B n i' ≠ 1 ∧ MS B n U V C0 C' i' nl' ∧ TRM C' g G ∧ C'.1 105 g = C'.1 76 42 ∧ C'.1 76 60 = nI g) ∧ MH C' t = h) ∧ 0 = m) ∨ (none = v ∧ (∃ C', (∃ c j, flS B n (fun x : tr_T × Nat × Option Nat => x.2.1) r c j ∧ FS B n U V C0 C' c j) ∧ MH C' t = h) ∧ 0 = m)
set_option maxRecDepth 100000 in
theorem PTQ_g {r : pz_T (tr_T × Nat × Option Nat)} (hg : g < 8) (hn : trN tr = nI g) : ∀ v h m, PTG B n U V C0 t g r v h m → PTQ B n U V C0 t tr r v h m := by
  intro v h m hq
  rcases hq with ⟨hv, ⟨C', ⟨G, i', nl', h1, h2, h3⟩, hh⟩, hm⟩ | hq
  · exact Or.inl ⟨g, hv, ⟨C', ⟨G, i', nl', h1, ⟨hg, hn⟩, h2, h3⟩, hh⟩, hm⟩
  · exact Or.inr hq
set_option maxRecDepth 100000 in
theorem bd_tim (h : kd B n i = 1) : rTim (tkP B n) i = .inl (2, i) := by
  unfold rTim
  rw [if_neg (by show ¬ kd B n i = 5; rw [h]; decide), if_neg (by show ¬ kd B n i = 9; rw [h]; decide)]
set_option maxRecDepth 100000 in
theorem bd_new {K : tv2} {f : Int64 → Int32} {w : Int32} (h : K.1 i = 1) : bdS (rNew K f w i) i := ⟨2, if_neg (by rw [h]; decide)⟩
/-! the name at the token i is looked up -/
set_option maxRecDepth 100000 in
theorem e236 (hU : ∀ g, g < 8 → tr g = none → U (32 + g) ∧ U (24 + g)) (M : MS B n U V C0 C i none) (S : SCM C sc) (G : TGM C tr) (hk : kd B n i = 3) (h43 : C.1 76 43 = nI a) (h42 : C.1 76 42 = 0) (ha : a + k = 400) (hq8 : q ≤ 8) (hq1 : q < 8 → C.1 95 q = 0 ∧ fnd (fun j => decide (C.1 95 j = 0)) 8 0 = nI q) (hq2 : q = 8 → fnd (fun j => decide (C.1 95 j = 0)) 8 0 = -1) : Wd L xs (d + 12) y_236 (35, [(1, .int (nI q)), (0, .ref 176)], [], MH C t, 0) (PTQ B n U V C0 t tr (pb (rNew (tkP B n) (trF tr) (trN tr) i) (fun nm => rTr1 (tkP B n) sc nm.1 nm.2 (some k)))) nX := by
  have hk1 : kd B n i ≠ 1 := M.2.1.1
  have hv : C.2.1 76 7 = vl B n i := by rw [M.2.1.2.2.2.1, hk]; rfl
  have hfn := trF_M G (vl B n i)
  have hnn := trN_M G
  by_cases hf : trF tr (vl B n i) = -1
  · by_cases h8 : q = 8
    · have hn : trN tr = -1 := hnn.symm.trans (hq2 h8)
      have hx : rNew (tkP B n) (trF tr) (trN tr) i = .inl (6, i) := by
        unfold rNew
        rw [if_pos (show (tkP B n).1 i = 3 from hk), if_pos (show trF tr ((tkP B n).2 i) = -1 from hf), if_pos hn]
      have F := FS_new (c := 6) M (by decide)
      refine w_p (pc1 := 36) rfl rfl ?_
      refine w_p (pc1 := 37) rfl rfl ?_
      refine w_m0 (pc1 := 40) (st1 := .long (vl B n i) :: _) rfl rfl (h_gJe (j := 7) rfl rfl rfl rfl rfl (hv)) rfl ?_
      refine w_je (pc1 := 43) (vs := [.ref 176, .long (vl B n i)]) (rest := []) (st1 := [.int (-1)]) (m_237r (d := _) (sl := 0) (hfn.trans hf)) rfl rfl rfl (fun _ _ => rfl) rfl (by exact cl_v my_237 rfl rfl rfl (Nat.le_of_ble_eq_true rfl) rfl (MH_obj rfl rfl) rfl (by decide) rfl rfl) (by rfl) (Nat.le_of_ble_eq_true rfl) (Nat.le_of_ble_eq_true rfl) rfl (by rfl) ?_
      refine w_p (pc1 := 44) (st1 := .int (-1) :: _) rfl rfl ?_
      refine w_t (a := 52) (b := 47) rfl rfl rfl ?_
      refine w_p (pc1 := 53) rfl rfl ?_
      refine w_p (pc1 := 55) (st1 := .int 8 :: _) rfl rfl ?_
      refine w_f (a := 64) (b := 58) (bN_ne_f (a := q) (b := 8) (by omega) (by omega) (by omega)) rfl rfl ?_
      refine w_p (pc1 := 59) rfl rfl ?_
      refine w_p (pc1 := 61) (st1 := .int 6 :: _) rfl rfl ?_
      refine w_je (pc1 := 64) (vs := [.ref 176, .int 6]) (rest := []) (st1 := []) (m_200 (d := _) (sl := 0) (fun z => absurd M.2.1.2.1 z)) rfl rfl rfl (fun _ _ => rfl) rfl (by exact cl_v my_200 rfl rfl rfl (Nat.le_of_ble_eq_true rfl) rfl (MH_obj rfl rfl) rfl (by decide) rfl rfl) (by rfl) (Nat.le_of_ble_eq_true rfl) (Nat.le_of_ble_eq_true rfl) rfl (by rfl) ?_
      refine w_p (pc1 := 65) rfl rfl ?_
      refine w_m0 (pc1 := 68) (st1 := .int 6 :: _) rfl rfl (h_gIe (j := 8) rfl rfl rfl rfl rfl (F.1.2.1)) rfl ?_
      refine w_f (a := 72) (b := 71) rfl rfl rfl ?_
      refine w_r rfl rfl rfl (fun _ _ => rfl) rfl ?_
      exact Or.inr ⟨rfl, ⟨_, ⟨6, i, flS_n (pb_l hx) hk1, F⟩, rfl⟩, rfl⟩
    · have hq8 : q < 8 := by omega
      have hn : trN tr = nI q := hnn.symm.trans (hq1 hq8).2
      have hx : rNew (tkP B n) (trF tr) (trN tr) i = .inr (vl B n i, i + 1) := by
        unfold rNew
        rw [if_pos (show (tkP B n).1 i = 3 from hk), if_pos (show trF tr ((tkP B n).2 i) = -1 from hf), if_neg (by rw [hn]; exact nK_m1 (by omega))]
        rfl
      rw [pb_r hx]
      have ht : tr q = none := by
        have h := G q hq8
        cases e : tr q with
        | none => rfl
        | some z =>
          rw [e] at h
          rw [(hq1 hq8).1] at h
          exact absurd h.1 (by decide)
      have hU3 := hU q hq8 ht
      have M1 := MS_J (v := vl B n i) (MS_I (v := nI q) M (sx_76 (j := 60) (by omega)) (by omega)) (k := 96) (j := q) (Or.inr (Or.inr (Or.inr (Or.inl ⟨Or.inl rfl, hU3.1⟩)))) (by omega)
      have S1 : SCM (sJ (sI C 76 60 (nI q)) 96 q (vl B n i)) sc := fun b hb => ⟨(S b hb).1, fun hz => by
        obtain ⟨s1, s2, s3, s4⟩ := (S b hb).2 hz
        exact ⟨by rw [sJ_2, if_neg (by omega)]; exact s1, s2, s3, fun c hc => by rw [sJ_2, if_neg (by omega)]; exact s4 c hc⟩⟩
      have H0 : TB0 (sJ (sI C 76 60 (nI q)) 96 q (vl B n i)) q (vl B n i) a := ⟨by rw [sJ_2, if_pos ⟨rfl, rfl⟩], by show (sI C 76 60 (nI q)).1 76 60 = _; rw [sI_1, if_pos ⟨rfl, rfl⟩], by show (sI C 76 60 (nI q)).1 76 43 = _; rw [sI_1, if_neg (by omega)]; exact h43, by show (sI C 76 60 (nI q)).1 76 42 = _; rw [sI_1, if_neg (by omega)]; exact h42⟩
      refine w_p (pc1 := 36) rfl rfl ?_
      refine w_p (pc1 := 37) rfl rfl ?_
      refine w_m0 (pc1 := 40) (st1 := .long (vl B n i) :: _) rfl rfl (h_gJe (j := 7) rfl rfl rfl rfl rfl (hv)) rfl ?_
      refine w_je (pc1 := 43) (vs := [.ref 176, .long (vl B n i)]) (rest := []) (st1 := [.int (-1)]) (m_237r (d := _) (sl := 0) (hfn.trans hf)) rfl rfl rfl (fun _ _ => rfl) rfl (by exact cl_v my_237 rfl rfl rfl (Nat.le_of_ble_eq_true rfl) rfl (MH_obj rfl rfl) rfl (by decide) rfl rfl) (by rfl) (Nat.le_of_ble_eq_true rfl) (Nat.le_of_ble_eq_true rfl) rfl (by rfl) ?_
      refine w_p (pc1 := 44) (st1 := .int (-1) :: _) rfl rfl ?_
      refine w_t (a := 52) (b := 47) rfl rfl rfl ?_
      refine w_p (pc1 := 53) rfl rfl ?_
      refine w_p (pc1 := 55) (st1 := .int 8 :: _) rfl rfl ?_
      refine w_t (a := 64) (b := 58) (bN_ne_t (a := q) (b := 8) (by omega) (by omega) (by omega)) rfl rfl ?_
      refine w_p (pc1 := 65) rfl rfl ?_
      refine w_m0 (pc1 := 68) (st1 := .int 0 :: _) rfl rfl (h_gIe (j := 8) rfl rfl rfl rfl rfl (M.2.1.2.1)) rfl ?_
      refine w_t (a := 72) (b := 71) rfl rfl rfl ?_
      refine w_p (pc1 := 73) rfl rfl ?_
      refine w_p (pc1 := 74) rfl rfl ?_
      refine w_m0 (pc1 := 77) rfl rfl (h_pI (j := 60) rfl rfl rfl rfl rfl rfl rfl ⟨rfl, rfl⟩ rfl) rfl ?_
      refine w_p (pc1 := 78) rfl rfl ?_
      refine w_m0 (pc1 := 81) rfl rfl (h_gC rfl rfl rfl rfl) rfl ?_
      refine w_p (pc1 := 82) rfl rfl ?_
      refine w_p (pc1 := 83) rfl rfl ?_
      refine w_m0 (pc1 := 86) (st1 := .long (vl B n i) :: _) rfl rfl (h_gJe (j := 7) rfl rfl rfl rfl rfl (hv)) rfl ?_
      refine w_m0 (pc1 := 87) rfl rfl (n_ls (e := q) rfl rfl rfl (by omega)) rfl ?_
      refine w_p (pc1 := 88) rfl rfl ?_
      refine w_ji (pc1 := 91) (vs := [.ref 176]) (rest := []) (nS (d := _) M1 (by rw [hk]; decide)) rfl rfl rfl (fun _ _ => rfl) rfl (by exact cl_v my_195 rfl rfl rfl (Nat.le_of_ble_eq_true rfl) rfl (MH_obj rfl rfl) rfl (by decide) rfl rfl) (by rfl) (Nat.le_of_ble_eq_true rfl) (Nat.le_of_ble_eq_true rfl) rfl (fun v h1 d1 hq => ?_) (fun _ _ _ e => e.elim)
      rcases hq with ⟨hv, ⟨C2, ⟨g2, M2, f2⟩, hh⟩, hn3⟩ | ⟨hv, ⟨C2, ⟨g2, F2, f2⟩, hh⟩, hn3⟩
      · subst hv; subst hh; subst hn3
        first
        | exact Wd_q (g_91 hq8 hU3.1 hU3.2 M2 (SCM_T S1 f2) (TB0_T H0 f2) ha) (PTQ_g hq8 hn) (fun _ _ _ e => e)
        | exact fz_91 hq8 hU3.1 F2 (fun C9 F9 => Or.inr ⟨rfl, ⟨_, ⟨1, i + 1, flS_1 (bdS_b ⟨2, bd_tim g2⟩) g2, F9⟩, rfl⟩, rfl⟩)
      · subst hv; subst hh; subst hn3
        first
        | exact Wd_q (g_91 hq8 hU3.1 hU3.2 M2 (SCM_T S1 f2) (TB0_T H0 f2) ha) (PTQ_g hq8 hn) (fun _ _ _ e => e)
        | exact fz_91 hq8 hU3.1 F2 (fun C9 F9 => Or.inr ⟨rfl, ⟨_, ⟨1, i + 1, flS_1 (bdS_b ⟨2, bd_tim g2⟩) g2, F9⟩, rfl⟩, rfl⟩)
  · have hx : rNew (tkP B n) (trF tr) (trN tr) i = .inl (3, i) := by
      unfold rNew
      rw [if_pos (show (tkP B n).1 i = 3 from hk), if_neg (show ¬ trF tr ((tkP B n).2 i) = -1 from hf)]
    have F := FS_new (c := 3) M (by decide)
    refine w_p (pc1 := 36) rfl rfl ?_
    refine w_p (pc1 := 37) rfl rfl ?_
    refine w_m0 (pc1 := 40) (st1 := .long (vl B n i) :: _) rfl rfl (h_gJe (j := 7) rfl rfl rfl rfl rfl (hv)) rfl ?_
    refine w_je (pc1 := 43) (vs := [.ref 176, .long (vl B n i)]) (rest := []) (st1 := [.int (trF tr (vl B n i))]) (m_237r (d := _) (sl := 0) hfn) rfl rfl rfl (fun _ _ => rfl) rfl (by exact cl_v my_237 rfl rfl rfl (Nat.le_of_ble_eq_true rfl) rfl (MH_obj rfl rfl) rfl (by decide) rfl rfl) (by rfl) (Nat.le_of_ble_eq_true rfl) (Nat.le_of_ble_eq_true rfl) rfl (by rfl) ?_
    refine w_p (pc1 := 44) (st1 := .int (-1) :: _) rfl rfl ?_
    refine w_f (a := 52) (b := 47) (cb_eq_f (by exact hf)) rfl rfl ?_
    refine w_p (pc1 := 48) rfl rfl ?_
    refine w_p (pc1 := 49) (st1 := .int 3 :: _) rfl rfl ?_
    refine w_je (pc1 := 52) (vs := [.ref 176, .int 3]) (rest := []) (st1 := []) (m_200 (d := _) (sl := 0) (fun z => absurd M.2.1.2.1 z)) rfl rfl rfl (fun _ _ => rfl) rfl (by exact cl_v my_200 rfl rfl rfl (Nat.le_of_ble_eq_true rfl) rfl (MH_obj rfl rfl) rfl (by decide) rfl rfl) (by rfl) (Nat.le_of_ble_eq_true rfl) (Nat.le_of_ble_eq_true rfl) rfl (by rfl) ?_
    refine w_p (pc1 := 53) rfl rfl ?_
    refine w_p (pc1 := 55) (st1 := .int 8 :: _) rfl rfl ?_
    refine w_b (a := 64) (b := 58) rfl rfl (fun c55 => ?_) (fun c55 => ?_)
    · replace c55 := cN_ne_t (a := q) (b := 8) (by omega) (by omega) c55
      refine w_p (pc1 := 65) rfl rfl ?_
      refine w_m0 (pc1 := 68) (st1 := .int 3 :: _) rfl rfl (h_gIe (j := 8) rfl rfl rfl rfl rfl (F.1.2.1)) rfl ?_
      refine w_f (a := 72) (b := 71) rfl rfl rfl ?_
      refine w_r rfl rfl rfl (fun _ _ => rfl) rfl ?_
      exact Or.inr ⟨rfl, ⟨_, ⟨3, i, flS_n (pb_l hx) hk1, F⟩, rfl⟩, rfl⟩
    · replace c55 := cN_ne_f (a := q) (b := 8) (by omega) (by omega) c55
      refine w_p (pc1 := 59) rfl rfl ?_
      refine w_p (pc1 := 61) (st1 := .int 6 :: _) rfl rfl ?_
      refine w_je (pc1 := 64) (vs := [.ref 176, .int 6]) (rest := []) (st1 := []) (hF (d := _) (c' := 6) F (by decide)) rfl rfl rfl (fun _ _ => rfl) rfl (by exact cl_v my_200 rfl rfl rfl (Nat.le_of_ble_eq_true rfl) rfl (MH_obj rfl rfl) rfl (by decide) rfl rfl) (by rfl) (Nat.le_of_ble_eq_true rfl) (Nat.le_of_ble_eq_true rfl) rfl (by rfl) ?_
      refine w_p (pc1 := 65) rfl rfl ?_
      refine w_m0 (pc1 := 68) (st1 := .int 3 :: _) rfl rfl (h_gIe (j := 8) rfl rfl rfl rfl rfl (F.1.2.1)) rfl ?_
      refine w_f (a := 72) (b := 71) rfl rfl rfl ?_
      refine w_r rfl rfl rfl (fun _ _ => rfl) rfl ?_
      exact Or.inr ⟨rfl, ⟨_, ⟨3, i, flS_n (pb_l hx) hk1, F⟩, rfl⟩, rfl⟩
set_option maxRecDepth 100000 in
theorem m_236 (hU : ∀ g, g < 8 → tr g = none → U (32 + g) ∧ U (24 + g)) (M : MS B n U V C0 C i none) (S : SCM C sc) (G : TGM C tr) (hk : kd B n i = 39) (h43 : C.1 76 43 = nI a) (h42 : C.1 76 42 = 0) (ha : a + k = 400) : Wd L xs (d + 12) y_236 (0, [(0, .ref 176)], [], MH C t, 0) (PTQ B n U V C0 t tr (rTrg (tkP B n) sc tr i (some k))) nX := by
  unfold rTrg
  by_cases h3 : kd B n (i + 1) = 3
  · skip
    refine w_p (pc1 := 1) rfl rfl ?_
    refine w_ji (pc1 := 4) (vs := [.ref 176]) (rest := []) (nS (d := _) M (by rw [hk]; decide)) rfl rfl rfl (fun _ _ => rfl) rfl (by exact cl_v my_195 rfl rfl rfl (Nat.le_of_ble_eq_true rfl) rfl (MH_obj rfl rfl) rfl (by decide) rfl rfl) (by rfl) (Nat.le_of_ble_eq_true rfl) (Nat.le_of_ble_eq_true rfl) rfl (fun v h1 d1 hq => ?_) (fun _ _ _ e => e.elim)
    rcases hq with ⟨hv, ⟨C1, ⟨g1, M1, f1⟩, hh⟩, hn⟩ | ⟨hv, ⟨C1, ⟨g1, F1, f1⟩, hh⟩, hn⟩
    · subst hv; subst hh; subst hn
      refine w_p (pc1 := 5) rfl rfl ?_
      refine w_je (pc1 := 8) (vs := [.ref 176]) (rest := []) (st1 := [.int 1]) (m_207y (d := _) M1 h3) rfl rfl rfl (fun _ _ => rfl) rfl (by exact cl_v my_207 rfl rfl rfl (Nat.le_of_ble_eq_true rfl) rfl (MH_obj rfl rfl) rfl (by decide) rfl rfl) (by rfl) (Nat.le_of_ble_eq_true rfl) (Nat.le_of_ble_eq_true rfl) rfl (by rfl) ?_
      refine w_t (a := 12) (b := 11) rfl rfl rfl ?_
      refine w_p (pc1 := 13) (st1 := .int 0 :: _) rfl rfl ?_
      refine w_p (pc1 := 14) (al1 := [(1, .int 0), (0, .ref 176)]) rfl rfl ?_
      exact lp_236 (fun q h1 h2 h4 => e236 hU M1 (SCM_T S f1) (TGM_T G f1) h3 ((f1.1 76 43 (by omega)).trans h43) ((f1.1 76 42 (by omega)).trans h42) ha h1 h2 h4) 8 0 (by omega) rfl
    · subst hv; subst hh; subst hn
      refine w_p (pc1 := 5) rfl rfl ?_
      refine w_je (pc1 := 8) (vs := [.ref 176]) (rest := []) (st1 := [.int 0]) (m_207f (d := _) F1) rfl rfl rfl (fun _ _ => rfl) rfl (by exact cl_v my_207 rfl rfl rfl (Nat.le_of_ble_eq_true rfl) rfl (MH_obj rfl rfl) rfl (by decide) rfl rfl) (by rfl) (Nat.le_of_ble_eq_true rfl) (Nat.le_of_ble_eq_true rfl) rfl (by rfl) ?_
      refine w_f (a := 12) (b := 11) rfl rfl rfl ?_
      refine w_r rfl rfl rfl (fun _ _ => rfl) rfl ?_
      exact Or.inr ⟨rfl, ⟨_, ⟨1, i + 1, flS_1 (bdS_b (bd_new g1)) g1, F1⟩, rfl⟩, rfl⟩
  · skip
    refine w_p (pc1 := 1) rfl rfl ?_
    refine w_ji (pc1 := 4) (vs := [.ref 176]) (rest := []) (nS (d := _) M (by rw [hk]; decide)) rfl rfl rfl (fun _ _ => rfl) rfl (by exact cl_v my_195 rfl rfl rfl (Nat.le_of_ble_eq_true rfl) rfl (MH_obj rfl rfl) rfl (by decide) rfl rfl) (by rfl) (Nat.le_of_ble_eq_true rfl) (Nat.le_of_ble_eq_true rfl) rfl (fun v h1 d1 hq => ?_) (fun _ _ _ e => e.elim)
    rcases hq with ⟨hv, ⟨C1, ⟨g1, M1, f1⟩, hh⟩, hn⟩ | ⟨hv, ⟨C1, ⟨g1, F1, f1⟩, hh⟩, hn⟩
    · subst hv; subst hh; subst hn
      refine w_p (pc1 := 5) rfl rfl ?_
      refine w_je (pc1 := 8) (vs := [.ref 176]) (rest := []) (st1 := [.int 0]) (m_207n (d := _) M1 h3) rfl rfl rfl (fun _ _ => rfl) rfl (by exact cl_v my_207 rfl rfl rfl (Nat.le_of_ble_eq_true rfl) rfl (MH_obj rfl rfl) rfl (by decide) rfl rfl) (by rfl) (Nat.le_of_ble_eq_true rfl) (Nat.le_of_ble_eq_true rfl) rfl (by rfl) ?_
      refine w_f (a := 12) (b := 11) rfl rfl rfl ?_
      refine w_r rfl rfl rfl (fun _ _ => rfl) rfl ?_
      exact Or.inr ⟨rfl, ⟨_, ⟨2, i + 1, flS_n (pb_l (show rNew (tkP B n) (trF tr) (trN tr) (i + 1) = .inl (2, i + 1) from if_neg h3)) g1, FS_new M1 (by decide)⟩, rfl⟩, rfl⟩
    · subst hv; subst hh; subst hn
      refine w_p (pc1 := 5) rfl rfl ?_
      refine w_je (pc1 := 8) (vs := [.ref 176]) (rest := []) (st1 := [.int 0]) (m_207f (d := _) F1) rfl rfl rfl (fun _ _ => rfl) rfl (by exact cl_v my_207 rfl rfl rfl (Nat.le_of_ble_eq_true rfl) rfl (MH_obj rfl rfl) rfl (by decide) rfl rfl) (by rfl) (Nat.le_of_ble_eq_true rfl) (Nat.le_of_ble_eq_true rfl) rfl (by rfl) ?_
      refine w_f (a := 12) (b := 11) rfl rfl rfl ?_
      refine w_r rfl rfl rfl (fun _ _ => rfl) rfl ?_
      exact Or.inr ⟨rfl, ⟨_, ⟨1, i + 1, flS_1 (bdS_b (bd_new g1)) g1, F1⟩, rfl⟩, rfl⟩
end MSJ
