
/-! THE OTHER SIDE READS STATEMENTS, 15: marks, DROP -/
section MSM
variable {L : Nat} {xs : Nat → Int32} {B : Nat → Nat} {n : Nat} {C C' C0 C1 : co_T} {t : ab_H} {d i i0 i1 j b e p k w q : Nat} {U V : Nat → Prop} {c : Int32} {sc : sc_T} {row : Option Nat} {tg : Option (Nat × Nat)} {nl : Option Nat} {E : fe_T} {tr : Nat → Option tr_T}
variable {mk : Nat × (Nat → Int64)} {P : Option Value → ab_H → Nat → Prop}
abbrev nN : Nat → Prop := fun _ => False
/-! short statements: what may change -/
def fW (C C' : co_T) : Prop := (∀ k j, ¬ sxI nN nN k j → ¬ (k = 76 ∧ (j = 97 ∨ j = 98)) → C'.1 k j = C.1 k j) ∧ (∀ k j, ¬ sxJ nN nN k j → ¬ (k = 76 ∧ j = 99) → C'.2.1 k j = C.2.1 k j) ∧ btE C C'
set_option maxRecDepth 100000 in
theorem fW_r : fW C C := ⟨fun _ _ _ _ => rfl, fun _ _ _ _ => rfl, btE_r⟩
set_option maxRecDepth 100000 in
theorem fW_t {C1 C2 C3 : co_T} (h : fW C1 C2) (g : fW C2 C3) : fW C1 C3 := ⟨fun k j a b => (g.1 k j a b).trans (h.1 k j a b), fun k j a b => (g.2.1 k j a b).trans (h.2.1 k j a b), btE_t h.2.2 g.2.2⟩
set_option maxRecDepth 100000 in
theorem fW_S (h : fS_y nN nN C C') : fW C C' := ⟨fun k j a _ => h.1 k j a, fun k j a _ => h.2.1 k j a, h.2.2⟩
set_option maxRecDepth 100000 in
theorem fW_T (h : frT C C') : fW C C' := fW_S (fSy_T h)
set_option maxRecDepth 100000 in
theorem fW_I {v : Int32} (h : j = 97 ∨ j = 98) : fW C (sI C 76 j v) := ⟨fun k q _ b => by rw [sI_1, if_neg (by omega)], fun _ _ _ _ => rfl, btE_I ⟨fun e => by exfalso; omega, fun e => by exfalso; omega⟩⟩
set_option maxRecDepth 100000 in
theorem fW_J {v : Int64} : fW C (sJ C 76 99 v) := ⟨fun _ _ _ _ => rfl, fun k q _ b => by rw [sJ_2, if_neg (by omega)], btE_k rfl rfl rfl (fun _ => rfl)⟩
abbrev MB (B : Nat → Nat) (n : Nat) (C : co_T) (i : Nat) (nl : Option Nat) : Prop := MS B n nN nN C C i nl
abbrev FBy (B : Nat → Nat) (n : Nat) (C : co_T) (c : Int32) (i : Nat) : Prop := FS B n nN nN C C c i
set_option maxRecDepth 100000 in
theorem MS_rb (M : MS B n U V C0 C i nl) : MB B n C i nl := ⟨M.1, M.2.1, M.2.2.1, M.2.2.2.1, M.2.2.2.2.1, fSy_r⟩
set_option maxRecDepth 100000 in
theorem FS_rb (F : FS B n U V C0 C c i) : FBy B n C c i := ⟨F.1, F.2.1, F.2.2.1, fSy_r, F.2.2.2.2⟩
set_option maxRecDepth 100000 in
theorem MB_I {v : Int32} (M : MB B n C i nl) (h : j = 97 ∨ j = 98) : MB B n (sI C 76 j v) i nl := by
  obtain ⟨T, R, hl, ho, hi, hf⟩ := M
  have e : ∀ q, q < 97 → (sI C 76 j v).1 76 q = C.1 76 q := fun q hq => by rw [sI_1, if_neg (by omega)]
  exact ⟨tpM_of T (e 2 (by omega)) (fun j => by rw [sI_1, if_neg (by omega)]), ⟨R.1, (e 8 (by omega)).trans R.2.1, (e 4 (by omega)).trans R.2.2.1, R.2.2.2.1, (e 5 (by omega)).trans R.2.2.2.2.1, (e 6 (by omega)).trans R.2.2.2.2.2⟩, lfM_of hl (e 44 (by omega)) (e 43 (by omega)) (e 42 (by omega)), ⟨(e 45 (by omega)).trans ho.1, (e 52 (by omega)).trans ho.2⟩, hi, fSy_r⟩
set_option maxRecDepth 100000 in
theorem MB_J {v : Int64} (M : MB B n C i nl) : MB B n (sJ C 76 99 v) i nl := by
  obtain ⟨T, R, hl, ho, hi, hf⟩ := M
  have e : (sJ C 76 99 v).2.1 76 7 = C.2.1 76 7 := by rw [sJ_2, if_neg (by omega)]
  exact ⟨T, ⟨R.1, R.2.1, R.2.2.1, e.trans R.2.2.2.1, R.2.2.2.2.1, R.2.2.2.2.2⟩, lfM_of hl rfl rfl rfl, ho, hi, fSy_r⟩
set_option maxRecDepth 100000 in
theorem FB_I {v : Int32} (F : FBy B n C c i) (h : j = 97 ∨ j = 98) : FBy B n (sI C 76 j v) c i := by
  obtain ⟨⟨h1, h3, h4⟩, T, ⟨z, a, hz, hzn, hza, ha, haa, han⟩, hf⟩ := F
  have e : ∀ q, q ≤ 9 → (sI C 76 j v).1 76 q = C.1 76 q := fun q hq => by rw [sI_1, if_neg (by omega)]
  exact ⟨⟨h1, (e 8 (by omega)).trans h3, (e 9 (by omega)).trans h4⟩, tpM_of T (e 2 (by omega)) (fun j => by rw [sI_1, if_neg (by omega)]), ⟨z, a, (e 6 (by omega)).trans hz, hzn, hza, (e 5 (by omega)).trans ha, haa, han⟩, fSy_r, hf.2⟩
def PSH {α : Type} (B : Nat → Nat) (n : Nat) (C : co_T) (t : ab_H) (x : pz_T (α × Nat × Option Nat)) (Q : α → co_T → Prop) : Option Value → ab_H → Nat → Prop := fun v h m => (none = v ∧ (∃ C', (∃ a i' nl', x = .inr (a, i', nl') ∧ kd B n i' ≠ 1 ∧ MB B n C' i' nl' ∧ Q a C' ∧ fW C C') ∧ MH C' t = h) ∧ 0 = m) ∨ (none = v ∧ (∃ C', (∃ c j, flS B n (fun y : α × Nat × Option Nat => y.2.1) x c j ∧ FBy B n C' c j ∧ fW C C') ∧ MH C' t = h) ∧ 0 = m)
/-! marks -/
def MKM (C : co_T) (mk : Nat × (Nat → Int64)) : Prop := C.1 76 70 = nI mk.1 ∧ mk.1 ≤ 6 ∧ ∀ j, j < mk.1 → C.2.1 123 j = mk.2 j
set_option maxRecDepth 100000 in
theorem MKM_o (H : MKM C mk) (f : fW C C') : MKM C' mk := ⟨(f.1 76 70 (fun a => by unfold sxI at a; omega) (by omega)).trans H.1, H.2.1, fun j hj => (f.2.1 123 j (fun a => by unfold sxJ at a; omega) (by omega)).trans (H.2.2 j hj)⟩
set_option maxRecDepth 100000 in
theorem lp_246 {a : Int64} (H : MKM C mk) : ∀ m k : Nat, k + m = mk.1 → Wd L xs d y_246 (2, [(3, .int (nI k)), (0, .ref 176), (1, .long a)], [], MH C t, 0) (Rt (some (.int (fnd (fun j => decide (mk.2 j = a)) m k))) (MH C t) 0) nX
  | 0, k, hk => by
    have h6 := H.2.1
    obtain rfl : k = mk.1 := by omega
    refine w_p (pc1 := 3) rfl rfl ?_
    refine w_p (pc1 := 4) rfl rfl ?_
    refine w_m0 (pc1 := 7) (st1 := .int (nI (mk.1)) :: _) rfl rfl (h_gIe (j := 70) rfl rfl rfl rfl rfl (H.1)) rfl ?_
    refine w_t (a := 29) (b := 10) (bN_ge_t (a := mk.1) (b := mk.1) (by omega) (by omega) (by omega)) rfl rfl ?_
    refine w_p (pc1 := 30) (st1 := .int (-1) :: _) rfl rfl ?_
    refine w_r rfl rfl rfl (fun _ _ => rfl) cr_int ?_
    exact ⟨rfl, rfl, rfl⟩
  | m + 1, k, hk => by
    have h6 := H.2.1
    by_cases h1 : mk.2 k = a
    · rw [fnd, decide_eq_true h1, cond_true]
      refine w_p (pc1 := 3) rfl rfl ?_
      refine w_p (pc1 := 4) rfl rfl ?_
      refine w_m0 (pc1 := 7) (st1 := .int (nI (mk.1)) :: _) rfl rfl (h_gIe (j := 70) rfl rfl rfl rfl rfl (H.1)) rfl ?_
      refine w_f (a := 29) (b := 10) (bN_ge_f (a := k) (b := mk.1) (by omega) (by omega) (by omega)) rfl rfl ?_
      refine w_p (pc1 := 11) rfl rfl ?_
      refine w_m0 (pc1 := 14) rfl rfl (h_gC rfl rfl rfl rfl) rfl ?_
      refine w_p (pc1 := 15) rfl rfl ?_
      refine w_m0 (pc1 := 16) (st1 := .long (mk.2 k) :: _) rfl rfl (n_lle (e := k) rfl rfl rfl (by omega) (H.2.2 k (by omega))) rfl ?_
      refine w_p (pc1 := 17) rfl rfl ?_
      refine w_p (pc1 := 18) rfl rfl ?_
      refine w_f (a := 23) (b := 21) (lb_ne_f (by exact h1)) rfl rfl ?_
      refine w_p (pc1 := 22) rfl rfl ?_
      refine w_r rfl rfl rfl (fun _ _ => rfl) cr_int ?_
      exact ⟨rfl, rfl, rfl⟩
    · rw [fnd, decide_eq_false h1, cond_false]
      refine w_p (pc1 := 3) rfl rfl ?_
      refine w_p (pc1 := 4) rfl rfl ?_
      refine w_m0 (pc1 := 7) (st1 := .int (nI (mk.1)) :: _) rfl rfl (h_gIe (j := 70) rfl rfl rfl rfl rfl (H.1)) rfl ?_
      refine w_f (a := 29) (b := 10) (bN_ge_f (a := k) (b := mk.1) (by omega) (by omega) (by omega)) rfl rfl ?_
      refine w_p (pc1 := 11) rfl rfl ?_
      refine w_m0 (pc1 := 14) rfl rfl (h_gC rfl rfl rfl rfl) rfl ?_
      refine w_p (pc1 := 15) rfl rfl ?_
      refine w_m0 (pc1 := 16) (st1 := .long (mk.2 k) :: _) rfl rfl (n_lle (e := k) rfl rfl rfl (by omega) (H.2.2 k (by omega))) rfl ?_
      refine w_p (pc1 := 17) rfl rfl ?_
      refine w_p (pc1 := 18) rfl rfl ?_
      refine w_t (a := 23) (b := 21) (lb_ne_t (by exact h1)) rfl rfl ?_
      refine w_iinc (pc1 := 26) (u := nI (k)) (z := nI (k + 1)) (al1 := [(3, .int (nI (k + 1))), (0, .ref 176), (1, .long (a))]) rfl rfl rfl nK_1 rfl rfl ?_
      refine w_p (pc1 := 2) rfl rfl ?_
      exact lp_246 H m (k + 1) (by omega)
set_option maxRecDepth 100000 in
theorem m_246 {a : Int64} {v : Int32} (H : MKM C mk) (hv : mkF mk a = v) : Wd L xs d y_246 (0, [(0, .ref 176), (1, .long a)], [], MH C t, 0) (Rt (some (.int v)) (MH C t) 0) nX := by
  subst hv
  refine w_p (pc1 := 1) (st1 := .int 0 :: _) rfl rfl ?_
  refine w_p (pc1 := 2) (al1 := [(3, .int 0), (0, .ref 176), (1, .long (a))]) rfl rfl ?_
  exact lp_246 H mk.1 0 (by omega)
set_option maxRecDepth 100000 in
theorem m_245_1 (M : MB B n C i nl) (H : MKM C mk) (h2 : kd B n i ≠ 2) : Wd L xs (d + 4) y_245 (0, [(0, .ref 176), (1, .int 1)], [], MH C t, 0) (PSH B n C t (pb (rThr (tkP B n) (mkF mk (vl B n (i + 1))) (i + 1)) (fun u => .inr (mkF mk (vl B n (i + 1)), u.2, nl))) (fun a C' => C'.1 76 98 = a ∧ C'.1 76 97 = C.1 76 97)) nX := by
  have h6 := H.2.1
  by_cases h3 : kd B n (i + 1) = 3
  · by_cases hf : mkF mk (vl B n (i + 1)) = -1
    · skip
      refine w_p (pc1 := 1) rfl rfl ?_
      refine w_ji (pc1 := 4) (vs := [.ref 176]) (rest := []) (nS (d := _) M h2) rfl rfl rfl (fun _ _ => rfl) rfl (by exact cl_v my_195 rfl rfl rfl (Nat.le_of_ble_eq_true rfl) rfl (MH_obj rfl rfl) rfl (by decide) rfl rfl) (by rfl) (Nat.le_of_ble_eq_true rfl) (Nat.le_of_ble_eq_true rfl) rfl (fun v h1 d1 hq => ?_) (fun _ _ _ e => e.elim)
      rcases hq with ⟨hv, ⟨C1, ⟨g1, M1, f1⟩, hh⟩, hn⟩ | ⟨hv, ⟨C1, ⟨g1, F1, f1⟩, hh⟩, hn⟩
      · subst hv; subst hh; subst hn
        refine w_p (pc1 := 5) rfl rfl ?_
        refine w_je (pc1 := 8) (vs := [.ref 176]) (rest := []) (st1 := [.int 1]) (m_207y (d := _) M1 h3) rfl rfl rfl (fun _ _ => rfl) rfl (by exact cl_v my_207 rfl rfl rfl (Nat.le_of_ble_eq_true rfl) rfl (MH_obj rfl rfl) rfl (by decide) rfl rfl) (by rfl) (Nat.le_of_ble_eq_true rfl) (Nat.le_of_ble_eq_true rfl) rfl (by rfl) ?_
        refine w_t (a := 12) (b := 11) rfl rfl rfl ?_
        refine w_p (pc1 := 13) rfl rfl ?_
        refine w_p (pc1 := 14) rfl rfl ?_
        refine w_m0 (pc1 := 17) (st1 := .long (vl B n (i + 1)) :: _) rfl rfl (h_gJe (j := 7) rfl rfl rfl rfl rfl (by rw [M1.2.1.2.2.2.1, h3]; rfl)) rfl ?_
        refine w_m0 (pc1 := 20) rfl rfl (h_pJ (j := 99) rfl rfl rfl rfl rfl rfl rfl ⟨rfl, rfl⟩ rfl) rfl ?_
        refine w_p (pc1 := 21) rfl rfl ?_
        refine w_p (pc1 := 22) rfl rfl ?_
        refine w_p (pc1 := 23) rfl rfl ?_
        refine w_m0 (pc1 := 26) (st1 := .long (vl B n (i + 1)) :: _) rfl rfl (h_gJe (j := 7) rfl rfl rfl rfl rfl (by rw [sJ_2, if_neg (by omega), M1.2.1.2.2.2.1, h3]; rfl)) rfl ?_
        refine w_je (pc1 := 29) (vs := [.ref 176, .long (vl B n (i + 1))]) (rest := [.ref 176]) (st1 := [.int (-1), .ref 176]) (m_246 (d := _) (MKM_o H (fW_t (fW_T f1) fW_J)) hf) rfl rfl rfl (fun _ _ => rfl) rfl (by exact cl_v my_246 rfl rfl rfl (Nat.le_of_ble_eq_true rfl) rfl (MH_obj rfl rfl) rfl (by decide) rfl rfl) (by rfl) (Nat.le_of_ble_eq_true rfl) (Nat.le_of_ble_eq_true rfl) rfl (by rfl) ?_
        refine w_m0 (pc1 := 32) rfl rfl (h_pI (j := 98) rfl rfl rfl rfl rfl rfl rfl ⟨rfl, rfl⟩ rfl) rfl ?_
        refine w_p (pc1 := 33) rfl rfl ?_
        refine w_f (a := 49) (b := 36) rfl rfl rfl ?_
        refine w_p (pc1 := 37) rfl rfl ?_
        refine w_m0 (pc1 := 40) (st1 := .int (-1) :: _) rfl rfl (h_gIe (j := 98) rfl rfl rfl rfl rfl (by rw [sI_1, if_pos ⟨rfl, rfl⟩])) rfl ?_
        refine w_p (pc1 := 41) (st1 := .int (-1) :: _) rfl rfl ?_
        refine w_f (a := 49) (b := 44) rfl rfl rfl ?_
        refine w_p (pc1 := 45) rfl rfl ?_
        refine w_p (pc1 := 46) (st1 := .int 4 :: _) rfl rfl ?_
        refine w_je (pc1 := 49) (vs := [.ref 176, .int 4]) (rest := []) (st1 := []) (m_200 (d := _) (sl := 0) (fun z => absurd (MB_I (v := -1) (MB_J (v := vl B n (i + 1)) (MS_rb M1)) (Or.inr rfl)).2.1.2.1 z)) rfl rfl rfl (fun _ _ => rfl) rfl (by exact cl_v my_200 rfl rfl rfl (Nat.le_of_ble_eq_true rfl) rfl (MH_obj rfl rfl) rfl (by decide) rfl rfl) (by rfl) (Nat.le_of_ble_eq_true rfl) (Nat.le_of_ble_eq_true rfl) rfl (by rfl) ?_
        refine w_p (pc1 := 50) rfl rfl ?_
        refine w_t (a := 76) (b := 53) rfl rfl rfl ?_
        refine w_p (pc1 := 77) rfl rfl ?_
        refine w_m0 (pc1 := 80) rfl rfl (h_gI (j := 8) rfl rfl rfl rfl rfl) rfl ?_
        refine w_t (a := 87) (b := 83) (cb_ne_t (by exact FS_0 (FS_new (c := 4) (MB_I (v := -1) (MB_J (v := vl B n (i + 1)) (MS_rb M1)) (Or.inr rfl)) (by decide)))) rfl rfl ?_
        refine w_r rfl rfl rfl (fun _ _ => rfl) rfl ?_
        have hx : rThr (tkP B n) (mkF mk (vl B n (i + 1))) (i + 1) = .inl (4, i + 1) := by
          unfold rThr
          rw [if_pos (show (tkP B n).1 (i + 1) = 3 from h3), if_pos hf]
        exact Or.inr ⟨rfl, ⟨_, ⟨4, i + 1, flS_n (pb_l hx) g1, FS_rb (FS_new (c := 4) (MB_I (v := -1) (MB_J (v := vl B n (i + 1)) (MS_rb M1)) (Or.inr rfl)) (by decide)), fW_t (fW_T f1) (fW_t fW_J (fW_t (fW_I (Or.inr rfl)) (fW_T frT_f)))⟩, rfl⟩, rfl⟩
      · subst hv; subst hh; subst hn
        refine w_p (pc1 := 5) rfl rfl ?_
        refine w_je (pc1 := 8) (vs := [.ref 176]) (rest := []) (st1 := [.int 0]) (m_207f (d := _) F1) rfl rfl rfl (fun _ _ => rfl) rfl (by exact cl_v my_207 rfl rfl rfl (Nat.le_of_ble_eq_true rfl) rfl (MH_obj rfl rfl) rfl (by decide) rfl rfl) (by rfl) (Nat.le_of_ble_eq_true rfl) (Nat.le_of_ble_eq_true rfl) rfl (by rfl) ?_
        refine w_f (a := 12) (b := 11) rfl rfl rfl ?_
        refine w_r rfl rfl rfl (fun _ _ => rfl) rfl ?_
        exact Or.inr ⟨rfl, ⟨_, ⟨1, i + 1, flS_1 (bdS_b ⟨2, if_neg (by show ¬ kd B n (i + 1) = 3; rw [g1]; decide)⟩) g1, FS_rb F1, fW_T f1⟩, rfl⟩, rfl⟩
    · have hx : rThr (tkP B n) (mkF mk (vl B n (i + 1))) (i + 1) = .inr ((), i + 1 + 1) := by
        unfold rThr
        rw [if_pos (show (tkP B n).1 (i + 1) = 3 from h3), if_neg hf]
      rw [pb_r hx]
      refine w_p (pc1 := 1) rfl rfl ?_
      refine w_ji (pc1 := 4) (vs := [.ref 176]) (rest := []) (nS (d := _) M h2) rfl rfl rfl (fun _ _ => rfl) rfl (by exact cl_v my_195 rfl rfl rfl (Nat.le_of_ble_eq_true rfl) rfl (MH_obj rfl rfl) rfl (by decide) rfl rfl) (by rfl) (Nat.le_of_ble_eq_true rfl) (Nat.le_of_ble_eq_true rfl) rfl (fun v h1 d1 hq => ?_) (fun _ _ _ e => e.elim)
      rcases hq with ⟨hv, ⟨C1, ⟨g1, M1, f1⟩, hh⟩, hn⟩ | ⟨hv, ⟨C1, ⟨g1, F1, f1⟩, hh⟩, hn⟩
      · subst hv; subst hh; subst hn
        refine w_p (pc1 := 5) rfl rfl ?_
        refine w_je (pc1 := 8) (vs := [.ref 176]) (rest := []) (st1 := [.int 1]) (m_207y (d := _) M1 h3) rfl rfl rfl (fun _ _ => rfl) rfl (by exact cl_v my_207 rfl rfl rfl (Nat.le_of_ble_eq_true rfl) rfl (MH_obj rfl rfl) rfl (by decide) rfl rfl) (by rfl) (Nat.le_of_ble_eq_true rfl) (Nat.le_of_ble_eq_true rfl) rfl (by rfl) ?_
        refine w_t (a := 12) (b := 11) rfl rfl rfl ?_
        refine w_p (pc1 := 13) rfl rfl ?_
        refine w_p (pc1 := 14) rfl rfl ?_
        refine w_m0 (pc1 := 17) (st1 := .long (vl B n (i + 1)) :: _) rfl rfl (h_gJe (j := 7) rfl rfl rfl rfl rfl (by rw [M1.2.1.2.2.2.1, h3]; rfl)) rfl ?_
        refine w_m0 (pc1 := 20) rfl rfl (h_pJ (j := 99) rfl rfl rfl rfl rfl rfl rfl ⟨rfl, rfl⟩ rfl) rfl ?_
        refine w_p (pc1 := 21) rfl rfl ?_
        refine w_p (pc1 := 22) rfl rfl ?_
        refine w_p (pc1 := 23) rfl rfl ?_
        refine w_m0 (pc1 := 26) (st1 := .long (vl B n (i + 1)) :: _) rfl rfl (h_gJe (j := 7) rfl rfl rfl rfl rfl (by rw [sJ_2, if_neg (by omega), M1.2.1.2.2.2.1, h3]; rfl)) rfl ?_
        refine w_je (pc1 := 29) (vs := [.ref 176, .long (vl B n (i + 1))]) (rest := [.ref 176]) (st1 := [.int (mkF mk (vl B n (i + 1))), .ref 176]) (m_246 (d := _) (MKM_o H (fW_t (fW_T f1) fW_J)) rfl) rfl rfl rfl (fun _ _ => rfl) rfl (by exact cl_v my_246 rfl rfl rfl (Nat.le_of_ble_eq_true rfl) rfl (MH_obj rfl rfl) rfl (by decide) rfl rfl) (by rfl) (Nat.le_of_ble_eq_true rfl) (Nat.le_of_ble_eq_true rfl) rfl (by rfl) ?_
        refine w_m0 (pc1 := 32) rfl rfl (h_pI (j := 98) rfl rfl rfl rfl rfl rfl rfl ⟨rfl, rfl⟩ rfl) rfl ?_
        refine w_p (pc1 := 33) rfl rfl ?_
        refine w_f (a := 49) (b := 36) rfl rfl rfl ?_
        refine w_p (pc1 := 37) rfl rfl ?_
        refine w_m0 (pc1 := 40) (st1 := .int (mkF mk (vl B n (i + 1))) :: _) rfl rfl (h_gIe (j := 98) rfl rfl rfl rfl rfl (by rw [sI_1, if_pos ⟨rfl, rfl⟩])) rfl ?_
        refine w_p (pc1 := 41) (st1 := .int (-1) :: _) rfl rfl ?_
        refine w_t (a := 49) (b := 44) (cb_ne_t (by exact hf)) rfl rfl ?_
        refine w_p (pc1 := 50) rfl rfl ?_
        refine w_t (a := 76) (b := 53) rfl rfl rfl ?_
        refine w_p (pc1 := 77) rfl rfl ?_
        refine w_m0 (pc1 := 80) (st1 := .int 0 :: _) rfl rfl (h_gIe (j := 8) rfl rfl rfl rfl rfl ((MB_I (v := mkF mk (vl B n (i + 1))) (MB_J (v := vl B n (i + 1)) (MS_rb M1)) (Or.inr rfl)).2.1.2.1)) rfl ?_
        refine w_f (a := 87) (b := 83) rfl rfl rfl ?_
        refine w_p (pc1 := 84) rfl rfl ?_
        refine w_ji (pc1 := 87) (vs := [.ref 176]) (rest := []) (nS (d := _) (MB_I (v := mkF mk (vl B n (i + 1))) (MB_J (v := vl B n (i + 1)) (MS_rb M1)) (Or.inr rfl)) (by rw [h3]; decide)) rfl rfl rfl (fun _ _ => rfl) rfl (by exact cl_v my_195 rfl rfl rfl (Nat.le_of_ble_eq_true rfl) rfl (MH_obj rfl rfl) rfl (by decide) rfl rfl) (by rfl) (Nat.le_of_ble_eq_true rfl) (Nat.le_of_ble_eq_true rfl) rfl (fun v h1 d1 hq => ?_) (fun _ _ _ e => e.elim)
        rcases hq with ⟨hv, ⟨C4, ⟨g4, M4, f4⟩, hh⟩, hn⟩ | ⟨hv, ⟨C4, ⟨g4, F4, f4⟩, hh⟩, hn⟩
        · subst hv; subst hh; subst hn
          refine w_r rfl rfl rfl (fun _ _ => rfl) rfl ?_
          exact Or.inl ⟨rfl, ⟨_, ⟨_, _, _, rfl, g4, MS_rb M4, ⟨by rw [f4.1 76 98 (by omega), sI_1, if_pos ⟨rfl, rfl⟩], by rw [f4.1 76 97 (by omega), sI_1, if_neg (by omega), sJ_1, f1.1 76 97 (by omega)]⟩, fW_t (fW_T f1) (fW_t fW_J (fW_t (fW_I (Or.inr rfl)) (fW_T f4)))⟩, rfl⟩, rfl⟩
        · subst hv; subst hh; subst hn
          refine w_r rfl rfl rfl (fun _ _ => rfl) rfl ?_
          exact Or.inr ⟨rfl, ⟨_, ⟨1, i + 1 + 1, flS_e rfl rfl g4, FS_rb F4, fW_t (fW_T f1) (fW_t fW_J (fW_t (fW_I (Or.inr rfl)) (fW_T f4)))⟩, rfl⟩, rfl⟩
      · subst hv; subst hh; subst hn
        refine w_p (pc1 := 5) rfl rfl ?_
        refine w_je (pc1 := 8) (vs := [.ref 176]) (rest := []) (st1 := [.int 0]) (m_207f (d := _) F1) rfl rfl rfl (fun _ _ => rfl) rfl (by exact cl_v my_207 rfl rfl rfl (Nat.le_of_ble_eq_true rfl) rfl (MH_obj rfl rfl) rfl (by decide) rfl rfl) (by rfl) (Nat.le_of_ble_eq_true rfl) (Nat.le_of_ble_eq_true rfl) rfl (by rfl) ?_
        refine w_f (a := 12) (b := 11) rfl rfl rfl ?_
        refine w_r rfl rfl rfl (fun _ _ => rfl) rfl ?_
        exact Or.inr ⟨rfl, ⟨_, ⟨1, i + 1, absurd h3 (by rw [g1]; decide), FS_rb F1, fW_T f1⟩, rfl⟩, rfl⟩
  · have hx : rThr (tkP B n) (mkF mk (vl B n (i + 1))) (i + 1) = .inl (2, i + 1) := if_neg h3
    refine w_p (pc1 := 1) rfl rfl ?_
    refine w_ji (pc1 := 4) (vs := [.ref 176]) (rest := []) (nS (d := _) M h2) rfl rfl rfl (fun _ _ => rfl) rfl (by exact cl_v my_195 rfl rfl rfl (Nat.le_of_ble_eq_true rfl) rfl (MH_obj rfl rfl) rfl (by decide) rfl rfl) (by rfl) (Nat.le_of_ble_eq_true rfl) (Nat.le_of_ble_eq_true rfl) rfl (fun v h1 d1 hq => ?_) (fun _ _ _ e => e.elim)
    rcases hq with ⟨hv, ⟨C1, ⟨g1, M1, f1⟩, hh⟩, hn⟩ | ⟨hv, ⟨C1, ⟨g1, F1, f1⟩, hh⟩, hn⟩
    · subst hv; subst hh; subst hn
      refine w_p (pc1 := 5) rfl rfl ?_
      refine w_je (pc1 := 8) (vs := [.ref 176]) (rest := []) (st1 := [.int 0]) (m_207n (d := _) M1 h3) rfl rfl rfl (fun _ _ => rfl) rfl (by exact cl_v my_207 rfl rfl rfl (Nat.le_of_ble_eq_true rfl) rfl (MH_obj rfl rfl) rfl (by decide) rfl rfl) (by rfl) (Nat.le_of_ble_eq_true rfl) (Nat.le_of_ble_eq_true rfl) rfl (by rfl) ?_
      refine w_f (a := 12) (b := 11) rfl rfl rfl ?_
      refine w_r rfl rfl rfl (fun _ _ => rfl) rfl ?_
      exact Or.inr ⟨rfl, ⟨_, ⟨2, i + 1, flS_n (pb_l hx) g1, FS_rb (FS_new M1 (by decide)), fW_t (fW_T f1) (fW_T frT_f)⟩, rfl⟩, rfl⟩
    · subst hv; subst hh; subst hn
      refine w_p (pc1 := 5) rfl rfl ?_
      refine w_je (pc1 := 8) (vs := [.ref 176]) (rest := []) (st1 := [.int 0]) (m_207f (d := _) F1) rfl rfl rfl (fun _ _ => rfl) rfl (by exact cl_v my_207 rfl rfl rfl (Nat.le_of_ble_eq_true rfl) rfl (MH_obj rfl rfl) rfl (by decide) rfl rfl) (by rfl) (Nat.le_of_ble_eq_true rfl) (Nat.le_of_ble_eq_true rfl) rfl (by rfl) ?_
      refine w_f (a := 12) (b := 11) rfl rfl rfl ?_
      refine w_r rfl rfl rfl (fun _ _ => rfl) rfl ?_
      exact Or.inr ⟨rfl, ⟨_, ⟨1, i + 1, flS_1 (bdS_b ⟨2, if_neg (by show ¬ kd B n (i + 1) = 3; rw [g1]; decide)⟩) g1, FS_rb F1, fW_T f1⟩, rfl⟩, rfl⟩
set_option maxRecDepth 100000 in
theorem m_245_0 (M : MB B n C i nl) (H : MKM C mk) (h2 : kd B n i ≠ 2) : Wd L xs (d + 4) y_245 (0, [(0, .ref 176), (1, .int 0)], [], MH C t, 0) (PSH B n C t (rMrk (tkP B n) mk i nl) (fun a C' => C'.2.1 76 99 = a ∧ C'.1 76 98 = mkF mk a ∧ C'.1 76 97 = C.1 76 97)) nX := by
  have h6 := H.2.1
  by_cases h3 : kd B n (i + 1) = 3
  · by_cases hf : mkF mk (vl B n (i + 1)) = -1
    · by_cases h66 : mk.1 = 6
      · have hx : rMrk (tkP B n) mk i nl = .inl (6, i + 1) := by
          unfold rMrk
          rw [if_pos (show (tkP B n).1 (i + 1) = 3 from h3), if_pos ⟨hf, by omega⟩]
        refine w_p (pc1 := 1) rfl rfl ?_
        refine w_ji (pc1 := 4) (vs := [.ref 176]) (rest := []) (nS (d := _) M h2) rfl rfl rfl (fun _ _ => rfl) rfl (by exact cl_v my_195 rfl rfl rfl (Nat.le_of_ble_eq_true rfl) rfl (MH_obj rfl rfl) rfl (by decide) rfl rfl) (by rfl) (Nat.le_of_ble_eq_true rfl) (Nat.le_of_ble_eq_true rfl) rfl (fun v h1 d1 hq => ?_) (fun _ _ _ e => e.elim)
        rcases hq with ⟨hv, ⟨C1, ⟨g1, M1, f1⟩, hh⟩, hn⟩ | ⟨hv, ⟨C1, ⟨g1, F1, f1⟩, hh⟩, hn⟩
        · subst hv; subst hh; subst hn
          refine w_p (pc1 := 5) rfl rfl ?_
          refine w_je (pc1 := 8) (vs := [.ref 176]) (rest := []) (st1 := [.int 1]) (m_207y (d := _) M1 h3) rfl rfl rfl (fun _ _ => rfl) rfl (by exact cl_v my_207 rfl rfl rfl (Nat.le_of_ble_eq_true rfl) rfl (MH_obj rfl rfl) rfl (by decide) rfl rfl) (by rfl) (Nat.le_of_ble_eq_true rfl) (Nat.le_of_ble_eq_true rfl) rfl (by rfl) ?_
          refine w_t (a := 12) (b := 11) rfl rfl rfl ?_
          refine w_p (pc1 := 13) rfl rfl ?_
          refine w_p (pc1 := 14) rfl rfl ?_
          refine w_m0 (pc1 := 17) (st1 := .long (vl B n (i + 1)) :: _) rfl rfl (h_gJe (j := 7) rfl rfl rfl rfl rfl (by rw [M1.2.1.2.2.2.1, h3]; rfl)) rfl ?_
          refine w_m0 (pc1 := 20) rfl rfl (h_pJ (j := 99) rfl rfl rfl rfl rfl rfl rfl ⟨rfl, rfl⟩ rfl) rfl ?_
          refine w_p (pc1 := 21) rfl rfl ?_
          refine w_p (pc1 := 22) rfl rfl ?_
          refine w_p (pc1 := 23) rfl rfl ?_
          refine w_m0 (pc1 := 26) (st1 := .long (vl B n (i + 1)) :: _) rfl rfl (h_gJe (j := 7) rfl rfl rfl rfl rfl (by rw [sJ_2, if_neg (by omega), M1.2.1.2.2.2.1, h3]; rfl)) rfl ?_
          refine w_je (pc1 := 29) (vs := [.ref 176, .long (vl B n (i + 1))]) (rest := [.ref 176]) (st1 := [.int (-1), .ref 176]) (m_246 (d := _) (MKM_o H (fW_t (fW_T f1) fW_J)) hf) rfl rfl rfl (fun _ _ => rfl) rfl (by exact cl_v my_246 rfl rfl rfl (Nat.le_of_ble_eq_true rfl) rfl (MH_obj rfl rfl) rfl (by decide) rfl rfl) (by rfl) (Nat.le_of_ble_eq_true rfl) (Nat.le_of_ble_eq_true rfl) rfl (by rfl) ?_
          refine w_m0 (pc1 := 32) rfl rfl (h_pI (j := 98) rfl rfl rfl rfl rfl rfl rfl ⟨rfl, rfl⟩ rfl) rfl ?_
          refine w_p (pc1 := 33) rfl rfl ?_
          refine w_t (a := 49) (b := 36) rfl rfl rfl ?_
          refine w_p (pc1 := 50) rfl rfl ?_
          refine w_f (a := 76) (b := 53) rfl rfl rfl ?_
          refine w_p (pc1 := 54) rfl rfl ?_
          refine w_m0 (pc1 := 57) (st1 := .int (-1) :: _) rfl rfl (h_gIe (j := 98) rfl rfl rfl rfl rfl (by rw [sI_1, if_pos ⟨rfl, rfl⟩])) rfl ?_
          refine w_p (pc1 := 58) (st1 := .int (-1) :: _) rfl rfl ?_
          refine w_f (a := 76) (b := 61) rfl rfl rfl ?_
          refine w_p (pc1 := 62) rfl rfl ?_
          refine w_m0 (pc1 := 65) (st1 := .int (nI (mk.1)) :: _) rfl rfl (h_gIe (j := 70) rfl rfl rfl rfl rfl (by rw [sI_1, if_neg (by omega), sJ_1, f1.1 76 70 (by omega)]; exact H.1)) rfl ?_
          refine w_p (pc1 := 67) (st1 := .int 6 :: _) rfl rfl ?_
          refine w_f (a := 76) (b := 70) (bN_ne_f (a := mk.1) (b := 6) (by omega) (by omega) (by omega)) rfl rfl ?_
          refine w_p (pc1 := 71) rfl rfl ?_
          refine w_p (pc1 := 73) (st1 := .int 6 :: _) rfl rfl ?_
          refine w_je (pc1 := 76) (vs := [.ref 176, .int 6]) (rest := []) (st1 := []) (m_200 (d := _) (sl := 0) (fun z => absurd (MB_I (v := -1) (MB_J (v := vl B n (i + 1)) (MS_rb M1)) (Or.inr rfl)).2.1.2.1 z)) rfl rfl rfl (fun _ _ => rfl) rfl (by exact cl_v my_200 rfl rfl rfl (Nat.le_of_ble_eq_true rfl) rfl (MH_obj rfl rfl) rfl (by decide) rfl rfl) (by rfl) (Nat.le_of_ble_eq_true rfl) (Nat.le_of_ble_eq_true rfl) rfl (by rfl) ?_
          refine w_p (pc1 := 77) rfl rfl ?_
          refine w_m0 (pc1 := 80) rfl rfl (h_gI (j := 8) rfl rfl rfl rfl rfl) rfl ?_
          refine w_t (a := 87) (b := 83) (cb_ne_t (by exact FS_0 (FS_new (c := 6) (MB_I (v := -1) (MB_J (v := vl B n (i + 1)) (MS_rb M1)) (Or.inr rfl)) (by decide)))) rfl rfl ?_
          refine w_r rfl rfl rfl (fun _ _ => rfl) rfl ?_
          exact Or.inr ⟨rfl, ⟨_, ⟨6, i + 1, flS_n hx g1, FS_rb (FS_new (c := 6) (MB_I (v := -1) (MB_J (v := vl B n (i + 1)) (MS_rb M1)) (Or.inr rfl)) (by decide)), fW_t (fW_T f1) (fW_t fW_J (fW_t (fW_I (Or.inr rfl)) (fW_T frT_f)))⟩, rfl⟩, rfl⟩
        · subst hv; subst hh; subst hn
          refine w_p (pc1 := 5) rfl rfl ?_
          refine w_je (pc1 := 8) (vs := [.ref 176]) (rest := []) (st1 := [.int 0]) (m_207f (d := _) F1) rfl rfl rfl (fun _ _ => rfl) rfl (by exact cl_v my_207 rfl rfl rfl (Nat.le_of_ble_eq_true rfl) rfl (MH_obj rfl rfl) rfl (by decide) rfl rfl) (by rfl) (Nat.le_of_ble_eq_true rfl) (Nat.le_of_ble_eq_true rfl) rfl (by rfl) ?_
          refine w_f (a := 12) (b := 11) rfl rfl rfl ?_
          refine w_r rfl rfl rfl (fun _ _ => rfl) rfl ?_
          exact Or.inr ⟨rfl, ⟨_, ⟨1, i + 1, flS_1 ⟨2, if_neg (by show ¬ kd B n (i + 1) = 3; rw [g1]; decide)⟩ g1, FS_rb F1, fW_T f1⟩, rfl⟩, rfl⟩
      · have hx : rMrk (tkP B n) mk i nl = .inr (vl B n (i + 1), i + 1 + 1, nl) := by
          unfold rMrk
          rw [if_pos (show (tkP B n).1 (i + 1) = 3 from h3), if_neg (by omega)]
          rfl
        refine w_p (pc1 := 1) rfl rfl ?_
        refine w_ji (pc1 := 4) (vs := [.ref 176]) (rest := []) (nS (d := _) M h2) rfl rfl rfl (fun _ _ => rfl) rfl (by exact cl_v my_195 rfl rfl rfl (Nat.le_of_ble_eq_true rfl) rfl (MH_obj rfl rfl) rfl (by decide) rfl rfl) (by rfl) (Nat.le_of_ble_eq_true rfl) (Nat.le_of_ble_eq_true rfl) rfl (fun v h1 d1 hq => ?_) (fun _ _ _ e => e.elim)
        rcases hq with ⟨hv, ⟨C1, ⟨g1, M1, f1⟩, hh⟩, hn⟩ | ⟨hv, ⟨C1, ⟨g1, F1, f1⟩, hh⟩, hn⟩
        · subst hv; subst hh; subst hn
          refine w_p (pc1 := 5) rfl rfl ?_
          refine w_je (pc1 := 8) (vs := [.ref 176]) (rest := []) (st1 := [.int 1]) (m_207y (d := _) M1 h3) rfl rfl rfl (fun _ _ => rfl) rfl (by exact cl_v my_207 rfl rfl rfl (Nat.le_of_ble_eq_true rfl) rfl (MH_obj rfl rfl) rfl (by decide) rfl rfl) (by rfl) (Nat.le_of_ble_eq_true rfl) (Nat.le_of_ble_eq_true rfl) rfl (by rfl) ?_
          refine w_t (a := 12) (b := 11) rfl rfl rfl ?_
          refine w_p (pc1 := 13) rfl rfl ?_
          refine w_p (pc1 := 14) rfl rfl ?_
          refine w_m0 (pc1 := 17) (st1 := .long (vl B n (i + 1)) :: _) rfl rfl (h_gJe (j := 7) rfl rfl rfl rfl rfl (by rw [M1.2.1.2.2.2.1, h3]; rfl)) rfl ?_
          refine w_m0 (pc1 := 20) rfl rfl (h_pJ (j := 99) rfl rfl rfl rfl rfl rfl rfl ⟨rfl, rfl⟩ rfl) rfl ?_
          refine w_p (pc1 := 21) rfl rfl ?_
          refine w_p (pc1 := 22) rfl rfl ?_
          refine w_p (pc1 := 23) rfl rfl ?_
          refine w_m0 (pc1 := 26) (st1 := .long (vl B n (i + 1)) :: _) rfl rfl (h_gJe (j := 7) rfl rfl rfl rfl rfl (by rw [sJ_2, if_neg (by omega), M1.2.1.2.2.2.1, h3]; rfl)) rfl ?_
          refine w_je (pc1 := 29) (vs := [.ref 176, .long (vl B n (i + 1))]) (rest := [.ref 176]) (st1 := [.int (-1), .ref 176]) (m_246 (d := _) (MKM_o H (fW_t (fW_T f1) fW_J)) hf) rfl rfl rfl (fun _ _ => rfl) rfl (by exact cl_v my_246 rfl rfl rfl (Nat.le_of_ble_eq_true rfl) rfl (MH_obj rfl rfl) rfl (by decide) rfl rfl) (by rfl) (Nat.le_of_ble_eq_true rfl) (Nat.le_of_ble_eq_true rfl) rfl (by rfl) ?_
          refine w_m0 (pc1 := 32) rfl rfl (h_pI (j := 98) rfl rfl rfl rfl rfl rfl rfl ⟨rfl, rfl⟩ rfl) rfl ?_
          refine w_p (pc1 := 33) rfl rfl ?_
          refine w_t (a := 49) (b := 36) rfl rfl rfl ?_
          refine w_p (pc1 := 50) rfl rfl ?_
          refine w_f (a := 76) (b := 53) rfl rfl rfl ?_
          refine w_p (pc1 := 54) rfl rfl ?_
          refine w_m0 (pc1 := 57) (st1 := .int (-1) :: _) rfl rfl (h_gIe (j := 98) rfl rfl rfl rfl rfl (by rw [sI_1, if_pos ⟨rfl, rfl⟩])) rfl ?_
          refine w_p (pc1 := 58) (st1 := .int (-1) :: _) rfl rfl ?_
          refine w_f (a := 76) (b := 61) rfl rfl rfl ?_
          refine w_p (pc1 := 62) rfl rfl ?_
          refine w_m0 (pc1 := 65) (st1 := .int (nI (mk.1)) :: _) rfl rfl (h_gIe (j := 70) rfl rfl rfl rfl rfl (by rw [sI_1, if_neg (by omega), sJ_1, f1.1 76 70 (by omega)]; exact H.1)) rfl ?_
          refine w_p (pc1 := 67) (st1 := .int 6 :: _) rfl rfl ?_
          refine w_t (a := 76) (b := 70) (bN_ne_t (a := mk.1) (b := 6) (by omega) (by omega) (by omega)) rfl rfl ?_
          refine w_p (pc1 := 77) rfl rfl ?_
          refine w_m0 (pc1 := 80) (st1 := .int 0 :: _) rfl rfl (h_gIe (j := 8) rfl rfl rfl rfl rfl ((MB_I (v := -1) (MB_J (v := vl B n (i + 1)) (MS_rb M1)) (Or.inr rfl)).2.1.2.1)) rfl ?_
          refine w_f (a := 87) (b := 83) rfl rfl rfl ?_
          refine w_p (pc1 := 84) rfl rfl ?_
          refine w_ji (pc1 := 87) (vs := [.ref 176]) (rest := []) (nS (d := _) (MB_I (v := -1) (MB_J (v := vl B n (i + 1)) (MS_rb M1)) (Or.inr rfl)) (by rw [h3]; decide)) rfl rfl rfl (fun _ _ => rfl) rfl (by exact cl_v my_195 rfl rfl rfl (Nat.le_of_ble_eq_true rfl) rfl (MH_obj rfl rfl) rfl (by decide) rfl rfl) (by rfl) (Nat.le_of_ble_eq_true rfl) (Nat.le_of_ble_eq_true rfl) rfl (fun v h1 d1 hq => ?_) (fun _ _ _ e => e.elim)
          rcases hq with ⟨hv, ⟨C4, ⟨g4, M4, f4⟩, hh⟩, hn⟩ | ⟨hv, ⟨C4, ⟨g4, F4, f4⟩, hh⟩, hn⟩
          · subst hv; subst hh; subst hn
            refine w_r rfl rfl rfl (fun _ _ => rfl) rfl ?_
            exact Or.inl ⟨rfl, ⟨_, ⟨_, _, _, hx, g4, MS_rb M4, ⟨by rw [f4.2.1 76 99 (by omega)]; show (sJ C1 76 99 _).2.1 76 99 = _; rw [sJ_2, if_pos ⟨rfl, rfl⟩], by rw [f4.1 76 98 (by omega), sI_1, if_pos ⟨rfl, rfl⟩]; exact hf.symm, by rw [f4.1 76 97 (by omega), sI_1, if_neg (by omega), sJ_1, f1.1 76 97 (by omega)]⟩, fW_t (fW_T f1) (fW_t fW_J (fW_t (fW_I (Or.inr rfl)) (fW_T f4)))⟩, rfl⟩, rfl⟩
          · subst hv; subst hh; subst hn
            refine w_r rfl rfl rfl (fun _ _ => rfl) rfl ?_
            exact Or.inr ⟨rfl, ⟨_, ⟨1, i + 1 + 1, flS_e hx rfl g4, FS_rb F4, fW_t (fW_T f1) (fW_t fW_J (fW_t (fW_I (Or.inr rfl)) (fW_T f4)))⟩, rfl⟩, rfl⟩
        · subst hv; subst hh; subst hn
          refine w_p (pc1 := 5) rfl rfl ?_
          refine w_je (pc1 := 8) (vs := [.ref 176]) (rest := []) (st1 := [.int 0]) (m_207f (d := _) F1) rfl rfl rfl (fun _ _ => rfl) rfl (by exact cl_v my_207 rfl rfl rfl (Nat.le_of_ble_eq_true rfl) rfl (MH_obj rfl rfl) rfl (by decide) rfl rfl) (by rfl) (Nat.le_of_ble_eq_true rfl) (Nat.le_of_ble_eq_true rfl) rfl (by rfl) ?_
          refine w_f (a := 12) (b := 11) rfl rfl rfl ?_
          refine w_r rfl rfl rfl (fun _ _ => rfl) rfl ?_
          exact Or.inr ⟨rfl, ⟨_, ⟨1, i + 1, flS_1 ⟨2, if_neg (by show ¬ kd B n (i + 1) = 3; rw [g1]; decide)⟩ g1, FS_rb F1, fW_T f1⟩, rfl⟩, rfl⟩
    · have hx : rMrk (tkP B n) mk i nl = .inr (vl B n (i + 1), i + 1 + 1, nl) := by
        unfold rMrk
        rw [if_pos (show (tkP B n).1 (i + 1) = 3 from h3), if_neg (fun z => hf z.1)]
        rfl
      refine w_p (pc1 := 1) rfl rfl ?_
      refine w_ji (pc1 := 4) (vs := [.ref 176]) (rest := []) (nS (d := _) M h2) rfl rfl rfl (fun _ _ => rfl) rfl (by exact cl_v my_195 rfl rfl rfl (Nat.le_of_ble_eq_true rfl) rfl (MH_obj rfl rfl) rfl (by decide) rfl rfl) (by rfl) (Nat.le_of_ble_eq_true rfl) (Nat.le_of_ble_eq_true rfl) rfl (fun v h1 d1 hq => ?_) (fun _ _ _ e => e.elim)
      rcases hq with ⟨hv, ⟨C1, ⟨g1, M1, f1⟩, hh⟩, hn⟩ | ⟨hv, ⟨C1, ⟨g1, F1, f1⟩, hh⟩, hn⟩
      · subst hv; subst hh; subst hn
        refine w_p (pc1 := 5) rfl rfl ?_
        refine w_je (pc1 := 8) (vs := [.ref 176]) (rest := []) (st1 := [.int 1]) (m_207y (d := _) M1 h3) rfl rfl rfl (fun _ _ => rfl) rfl (by exact cl_v my_207 rfl rfl rfl (Nat.le_of_ble_eq_true rfl) rfl (MH_obj rfl rfl) rfl (by decide) rfl rfl) (by rfl) (Nat.le_of_ble_eq_true rfl) (Nat.le_of_ble_eq_true rfl) rfl (by rfl) ?_
        refine w_t (a := 12) (b := 11) rfl rfl rfl ?_
        refine w_p (pc1 := 13) rfl rfl ?_
        refine w_p (pc1 := 14) rfl rfl ?_
        refine w_m0 (pc1 := 17) (st1 := .long (vl B n (i + 1)) :: _) rfl rfl (h_gJe (j := 7) rfl rfl rfl rfl rfl (by rw [M1.2.1.2.2.2.1, h3]; rfl)) rfl ?_
        refine w_m0 (pc1 := 20) rfl rfl (h_pJ (j := 99) rfl rfl rfl rfl rfl rfl rfl ⟨rfl, rfl⟩ rfl) rfl ?_
        refine w_p (pc1 := 21) rfl rfl ?_
        refine w_p (pc1 := 22) rfl rfl ?_
        refine w_p (pc1 := 23) rfl rfl ?_
        refine w_m0 (pc1 := 26) (st1 := .long (vl B n (i + 1)) :: _) rfl rfl (h_gJe (j := 7) rfl rfl rfl rfl rfl (by rw [sJ_2, if_neg (by omega), M1.2.1.2.2.2.1, h3]; rfl)) rfl ?_
        refine w_je (pc1 := 29) (vs := [.ref 176, .long (vl B n (i + 1))]) (rest := [.ref 176]) (st1 := [.int (mkF mk (vl B n (i + 1))), .ref 176]) (m_246 (d := _) (MKM_o H (fW_t (fW_T f1) fW_J)) rfl) rfl rfl rfl (fun _ _ => rfl) rfl (by exact cl_v my_246 rfl rfl rfl (Nat.le_of_ble_eq_true rfl) rfl (MH_obj rfl rfl) rfl (by decide) rfl rfl) (by rfl) (Nat.le_of_ble_eq_true rfl) (Nat.le_of_ble_eq_true rfl) rfl (by rfl) ?_
        refine w_m0 (pc1 := 32) rfl rfl (h_pI (j := 98) rfl rfl rfl rfl rfl rfl rfl ⟨rfl, rfl⟩ rfl) rfl ?_
        refine w_p (pc1 := 33) rfl rfl ?_
        refine w_t (a := 49) (b := 36) rfl rfl rfl ?_
        refine w_p (pc1 := 50) rfl rfl ?_
        refine w_f (a := 76) (b := 53) rfl rfl rfl ?_
        refine w_p (pc1 := 54) rfl rfl ?_
        refine w_m0 (pc1 := 57) (st1 := .int (mkF mk (vl B n (i + 1))) :: _) rfl rfl (h_gIe (j := 98) rfl rfl rfl rfl rfl (by rw [sI_1, if_pos ⟨rfl, rfl⟩])) rfl ?_
        refine w_p (pc1 := 58) (st1 := .int (-1) :: _) rfl rfl ?_
        refine w_t (a := 76) (b := 61) (cb_ne_t (by exact hf)) rfl rfl ?_
        refine w_p (pc1 := 77) rfl rfl ?_
        refine w_m0 (pc1 := 80) (st1 := .int 0 :: _) rfl rfl (h_gIe (j := 8) rfl rfl rfl rfl rfl ((MB_I (v := mkF mk (vl B n (i + 1))) (MB_J (v := vl B n (i + 1)) (MS_rb M1)) (Or.inr rfl)).2.1.2.1)) rfl ?_
        refine w_f (a := 87) (b := 83) rfl rfl rfl ?_
        refine w_p (pc1 := 84) rfl rfl ?_
        refine w_ji (pc1 := 87) (vs := [.ref 176]) (rest := []) (nS (d := _) (MB_I (v := mkF mk (vl B n (i + 1))) (MB_J (v := vl B n (i + 1)) (MS_rb M1)) (Or.inr rfl)) (by rw [h3]; decide)) rfl rfl rfl (fun _ _ => rfl) rfl (by exact cl_v my_195 rfl rfl rfl (Nat.le_of_ble_eq_true rfl) rfl (MH_obj rfl rfl) rfl (by decide) rfl rfl) (by rfl) (Nat.le_of_ble_eq_true rfl) (Nat.le_of_ble_eq_true rfl) rfl (fun v h1 d1 hq => ?_) (fun _ _ _ e => e.elim)
        rcases hq with ⟨hv, ⟨C4, ⟨g4, M4, f4⟩, hh⟩, hn⟩ | ⟨hv, ⟨C4, ⟨g4, F4, f4⟩, hh⟩, hn⟩
        · subst hv; subst hh; subst hn
          refine w_r rfl rfl rfl (fun _ _ => rfl) rfl ?_
          exact Or.inl ⟨rfl, ⟨_, ⟨_, _, _, hx, g4, MS_rb M4, ⟨by rw [f4.2.1 76 99 (by omega)]; show (sJ C1 76 99 _).2.1 76 99 = _; rw [sJ_2, if_pos ⟨rfl, rfl⟩], by rw [f4.1 76 98 (by omega), sI_1, if_pos ⟨rfl, rfl⟩], by rw [f4.1 76 97 (by omega), sI_1, if_neg (by omega), sJ_1, f1.1 76 97 (by omega)]⟩, fW_t (fW_T f1) (fW_t fW_J (fW_t (fW_I (Or.inr rfl)) (fW_T f4)))⟩, rfl⟩, rfl⟩
        · subst hv; subst hh; subst hn
          refine w_r rfl rfl rfl (fun _ _ => rfl) rfl ?_
          exact Or.inr ⟨rfl, ⟨_, ⟨1, i + 1 + 1, flS_e hx rfl g4, FS_rb F4, fW_t (fW_T f1) (fW_t fW_J (fW_t (fW_I (Or.inr rfl)) (fW_T f4)))⟩, rfl⟩, rfl⟩
      · subst hv; subst hh; subst hn
        refine w_p (pc1 := 5) rfl rfl ?_
        refine w_je (pc1 := 8) (vs := [.ref 176]) (rest := []) (st1 := [.int 0]) (m_207f (d := _) F1) rfl rfl rfl (fun _ _ => rfl) rfl (by exact cl_v my_207 rfl rfl rfl (Nat.le_of_ble_eq_true rfl) rfl (MH_obj rfl rfl) rfl (by decide) rfl rfl) (by rfl) (Nat.le_of_ble_eq_true rfl) (Nat.le_of_ble_eq_true rfl) rfl (by rfl) ?_
        refine w_f (a := 12) (b := 11) rfl rfl rfl ?_
        refine w_r rfl rfl rfl (fun _ _ => rfl) rfl ?_
        exact Or.inr ⟨rfl, ⟨_, ⟨1, i + 1, flS_1 ⟨2, if_neg (by show ¬ kd B n (i + 1) = 3; rw [g1]; decide)⟩ g1, FS_rb F1, fW_T f1⟩, rfl⟩, rfl⟩
  · have hx : rMrk (tkP B n) mk i nl = .inl (2, i + 1) := if_neg h3
    refine w_p (pc1 := 1) rfl rfl ?_
    refine w_ji (pc1 := 4) (vs := [.ref 176]) (rest := []) (nS (d := _) M h2) rfl rfl rfl (fun _ _ => rfl) rfl (by exact cl_v my_195 rfl rfl rfl (Nat.le_of_ble_eq_true rfl) rfl (MH_obj rfl rfl) rfl (by decide) rfl rfl) (by rfl) (Nat.le_of_ble_eq_true rfl) (Nat.le_of_ble_eq_true rfl) rfl (fun v h1 d1 hq => ?_) (fun _ _ _ e => e.elim)
    rcases hq with ⟨hv, ⟨C1, ⟨g1, M1, f1⟩, hh⟩, hn⟩ | ⟨hv, ⟨C1, ⟨g1, F1, f1⟩, hh⟩, hn⟩
    · subst hv; subst hh; subst hn
      refine w_p (pc1 := 5) rfl rfl ?_
      refine w_je (pc1 := 8) (vs := [.ref 176]) (rest := []) (st1 := [.int 0]) (m_207n (d := _) M1 h3) rfl rfl rfl (fun _ _ => rfl) rfl (by exact cl_v my_207 rfl rfl rfl (Nat.le_of_ble_eq_true rfl) rfl (MH_obj rfl rfl) rfl (by decide) rfl rfl) (by rfl) (Nat.le_of_ble_eq_true rfl) (Nat.le_of_ble_eq_true rfl) rfl (by rfl) ?_
      refine w_f (a := 12) (b := 11) rfl rfl rfl ?_
      refine w_r rfl rfl rfl (fun _ _ => rfl) rfl ?_
      exact Or.inr ⟨rfl, ⟨_, ⟨2, i + 1, flS_n hx g1, FS_rb (FS_new M1 (by decide)), fW_t (fW_T f1) (fW_T frT_f)⟩, rfl⟩, rfl⟩
    · subst hv; subst hh; subst hn
      refine w_p (pc1 := 5) rfl rfl ?_
      refine w_je (pc1 := 8) (vs := [.ref 176]) (rest := []) (st1 := [.int 0]) (m_207f (d := _) F1) rfl rfl rfl (fun _ _ => rfl) rfl (by exact cl_v my_207 rfl rfl rfl (Nat.le_of_ble_eq_true rfl) rfl (MH_obj rfl rfl) rfl (by decide) rfl rfl) (by rfl) (Nat.le_of_ble_eq_true rfl) (Nat.le_of_ble_eq_true rfl) rfl (by rfl) ?_
      refine w_f (a := 12) (b := 11) rfl rfl rfl ?_
      refine w_r rfl rfl rfl (fun _ _ => rfl) rfl ?_
      exact Or.inr ⟨rfl, ⟨_, ⟨1, i + 1, flS_1 ⟨2, if_neg (by show ¬ kd B n (i + 1) = 3; rw [g1]; decide)⟩ g1, FS_rb F1, fW_T f1⟩, rfl⟩, rfl⟩
end MSM
