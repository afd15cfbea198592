
/-! THE OTHER SIDE: flags are set one by one -/
section FLG
variable {L : Nat} {xs : Nat → Int32} {B : Nat → Nat} {n m : Nat} {C C' C0 C1 : co_T} {t t0 t1 : ab_H} {d sl sl0 sl1 i i0 i1 j b e ti k k0 kc ks w c : Nat} {sc : sc_T} {row : Option Nat} {tg : Option (Nat × Nat)} {nl : Option Nat} {kd0 tb0 : Int32} {P : Option Value → ab_H → Nat → Prop} {X : Nat → ab_H → Nat → Prop} {cs : List Nat} {ss : List (Option (List op_T))} {E : fe_T} {tr : Nat → Option tr_T} {u z : Bool} {rs : rs_T} {g : Nat → Int32} {sc : sc_T} {wt nm : Nat → Bool}
def flU (C0 C : co_T) (k i : Nat) (g : Nat → Int32) : Prop := (∀ q j, ¬ (q = k ∧ j < i) → C.1 q j = C0.1 q j) ∧ (∀ j, j < i → C.1 k j = g j) ∧ C.2 = C0.2
set_option maxRecDepth 100000 in
theorem flU_0 : flU C C k 0 g := ⟨fun _ _ _ => rfl, fun j h => by omega, rfl⟩
set_option maxRecDepth 100000 in
theorem flU_s (h : flU C0 C k i g) : flU C0 (sI C k i (g i)) k (i + 1) g := by
  refine ⟨fun q j z => ?_, fun j hj => ?_, h.2.2⟩
  · rw [sI_1, if_neg (fun e => z ⟨e.1, by omega⟩)]
    exact h.1 q j (fun e => z ⟨e.1, by omega⟩)
  · rw [sI_1]
    by_cases e : j = i
    · rw [if_pos ⟨rfl, e⟩, e]
    · rw [if_neg (fun x => e x.2)]
      exact h.2.1 j (by omega)
set_option maxRecDepth 100000 in
theorem lp_280  (k : ∀ C', flU C0 C' 91 24 (fun _ => 0) → Wd L xs d y_280 (31, [(1, .int (nI 24)), (0, .ref 176)], [], MH C' t, sl) P X) : ∀ (f i : Nat) (C : co_T), i + f = 24 → flU C0 C 91 i (fun _ => 0) → Wd L xs d y_280 (12, [(1, .int (nI i)), (0, .ref 176)], [], MH C t, sl) P X
  | 0, i, C, hi, F => by
    obtain rfl : i = 24 := by omega
    refine w_p (pc1 := 13) rfl rfl ?_
    refine w_p (pc1 := 15) (st1 := .int 24 :: _) rfl rfl ?_
    refine w_t (a := 31) (b := 18) (bN_ge_t (a := 24) (b := 24) (by omega) (by omega) (by omega)) rfl rfl ?_
    exact k C F
  | f + 1, i, C, hi, F => by
    have F2 := flU_s F
    have ih := lp_280  k f (i + 1) _ (by omega) F2
    refine w_p (pc1 := 13) rfl rfl ?_
    refine w_p (pc1 := 15) (st1 := .int 24 :: _) rfl rfl ?_
    refine w_f (a := 31) (b := 18) (bN_ge_f (a := i) (b := 24) (by omega) (by omega) (by omega)) rfl rfl ?_
    refine w_p (pc1 := 19) rfl rfl ?_
    refine w_m0 (pc1 := 22) rfl rfl (h_gC rfl rfl rfl rfl) rfl ?_
    refine w_p (pc1 := 23) rfl rfl ?_
    refine w_p (pc1 := 24) (st1 := .int 0 :: _) rfl rfl ?_
    refine w_m0 (pc1 := 25) rfl rfl (n_bs (e := i) rfl rfl (by decide) rfl (by omega)) rfl ?_
    refine w_iinc (pc1 := 28) (u := nI (i)) (z := nI (i + 1)) (al1 := [(1, .int (nI (i + 1))), (0, .ref 176)]) rfl rfl rfl nK_1 rfl rfl ?_
    refine w_p (pc1 := 12) rfl rfl ?_
    exact ih
set_option maxRecDepth 100000 in
theorem lp_279 (hw : ∀ j, j < 24 → C0.1 91 j = ck (wt j)) (hn : ∀ j, j < 24 → C0.1 139 j = ck (nm j)) (k : ∀ C', flU C0 C' 91 24 (fun j => ck (wt j || nm j)) → Wd L xs d y_279 (151, [(2, .int (nI 24)), (0, .ref 176)], [], MH C' t, sl) P X) : ∀ (f i : Nat) (C : co_T), i + f = 24 → flU C0 C 91 i (fun j => ck (wt j || nm j)) → Wd L xs d y_279 (110, [(2, .int (nI i)), (0, .ref 176)], [], MH C t, sl) P X
  | 0, i, C, hi, F => by
    obtain rfl : i = 24 := by omega
    refine w_p (pc1 := 111) rfl rfl ?_
    refine w_p (pc1 := 113) (st1 := .int 24 :: _) rfl rfl ?_
    refine w_t (a := 151) (b := 116) (bN_ge_t (a := 24) (b := 24) (by omega) (by omega) (by omega)) rfl rfl ?_
    exact k C F
  | f + 1, i, C, hi, F => by
    have a1 : C.1 91 i = ck (wt i) := (F.1 91 i (by omega)).trans (hw i (by omega))
    have a2 : C.1 139 i = ck (nm i) := (F.1 139 i (by omega)).trans (hn i (by omega))
    cases e1 : wt i with
    | true =>
      rw [e1] at a1
      have F2 := flU_s F
      have ih := lp_279 hw hn k f (i + 1) _ (by omega) F2
      simp only [e1, Bool.true_or] at ih
      refine w_p (pc1 := 111) rfl rfl ?_
      refine w_p (pc1 := 113) (st1 := .int 24 :: _) rfl rfl ?_
      refine w_f (a := 151) (b := 116) (bN_ge_f (a := i) (b := 24) (by omega) (by omega) (by omega)) rfl rfl ?_
      refine w_p (pc1 := 117) rfl rfl ?_
      refine w_m0 (pc1 := 120) rfl rfl (h_gC rfl rfl rfl rfl) rfl ?_
      refine w_p (pc1 := 121) rfl rfl ?_
      refine w_p (pc1 := 122) rfl rfl ?_
      refine w_m0 (pc1 := 125) rfl rfl (h_gC rfl rfl rfl rfl) rfl ?_
      refine w_p (pc1 := 126) rfl rfl ?_
      refine w_m0 (pc1 := 127) (st1 := .int 1 :: _) rfl rfl (n_ble (e := i) rfl rfl (by decide) rfl (by omega) (a1)) rfl ?_
      refine w_t (a := 139) (b := 130) rfl rfl rfl ?_
      refine w_p (pc1 := 140) (st1 := .int 1 :: _) rfl rfl ?_
      refine w_p (pc1 := 144) rfl rfl ?_
      refine w_m0 (pc1 := 145) rfl rfl (n_bs (e := i) rfl rfl (by decide) rfl (by omega)) rfl ?_
      refine w_iinc (pc1 := 148) (u := nI (i)) (z := nI (i + 1)) (al1 := [(2, .int (nI (i + 1))), (0, .ref 176)]) rfl rfl rfl nK_1 rfl rfl ?_
      refine w_p (pc1 := 110) rfl rfl ?_
      exact ih
    | false =>
      rw [e1] at a1
      cases e2 : nm i with
      | true =>
        rw [e2] at a2
        have F2 := flU_s F
        have ih := lp_279 hw hn k f (i + 1) _ (by omega) F2
        simp only [e1, e2, Bool.false_or] at ih
        refine w_p (pc1 := 111) rfl rfl ?_
        refine w_p (pc1 := 113) (st1 := .int 24 :: _) rfl rfl ?_
        refine w_f (a := 151) (b := 116) (bN_ge_f (a := i) (b := 24) (by omega) (by omega) (by omega)) rfl rfl ?_
        refine w_p (pc1 := 117) rfl rfl ?_
        refine w_m0 (pc1 := 120) rfl rfl (h_gC rfl rfl rfl rfl) rfl ?_
        refine w_p (pc1 := 121) rfl rfl ?_
        refine w_p (pc1 := 122) rfl rfl ?_
        refine w_m0 (pc1 := 125) rfl rfl (h_gC rfl rfl rfl rfl) rfl ?_
        refine w_p (pc1 := 126) rfl rfl ?_
        refine w_m0 (pc1 := 127) (st1 := .int 0 :: _) rfl rfl (n_ble (e := i) rfl rfl (by decide) rfl (by omega) (a1)) rfl ?_
        refine w_f (a := 139) (b := 130) rfl rfl rfl ?_
        refine w_p (pc1 := 131) rfl rfl ?_
        refine w_m0 (pc1 := 134) rfl rfl (h_gC rfl rfl rfl rfl) rfl ?_
        refine w_p (pc1 := 135) rfl rfl ?_
        refine w_m0 (pc1 := 136) (st1 := .int 1 :: _) rfl rfl (n_ble (e := i) rfl rfl (by decide) rfl (by omega) (a2)) rfl ?_
        refine w_f (a := 143) (b := 139) rfl rfl rfl ?_
        refine w_p (pc1 := 140) (st1 := .int 1 :: _) rfl rfl ?_
        refine w_p (pc1 := 144) rfl rfl ?_
        refine w_m0 (pc1 := 145) rfl rfl (n_bs (e := i) rfl rfl (by decide) rfl (by omega)) rfl ?_
        refine w_iinc (pc1 := 148) (u := nI (i)) (z := nI (i + 1)) (al1 := [(2, .int (nI (i + 1))), (0, .ref 176)]) rfl rfl rfl nK_1 rfl rfl ?_
        refine w_p (pc1 := 110) rfl rfl ?_
        exact ih
      | false =>
        rw [e2] at a2
        have F2 := flU_s F
        have ih := lp_279 hw hn k f (i + 1) _ (by omega) F2
        simp only [e1, e2, Bool.false_or] at ih
        refine w_p (pc1 := 111) rfl rfl ?_
        refine w_p (pc1 := 113) (st1 := .int 24 :: _) rfl rfl ?_
        refine w_f (a := 151) (b := 116) (bN_ge_f (a := i) (b := 24) (by omega) (by omega) (by omega)) rfl rfl ?_
        refine w_p (pc1 := 117) rfl rfl ?_
        refine w_m0 (pc1 := 120) rfl rfl (h_gC rfl rfl rfl rfl) rfl ?_
        refine w_p (pc1 := 121) rfl rfl ?_
        refine w_p (pc1 := 122) rfl rfl ?_
        refine w_m0 (pc1 := 125) rfl rfl (h_gC rfl rfl rfl rfl) rfl ?_
        refine w_p (pc1 := 126) rfl rfl ?_
        refine w_m0 (pc1 := 127) (st1 := .int 0 :: _) rfl rfl (n_ble (e := i) rfl rfl (by decide) rfl (by omega) (a1)) rfl ?_
        refine w_f (a := 139) (b := 130) rfl rfl rfl ?_
        refine w_p (pc1 := 131) rfl rfl ?_
        refine w_m0 (pc1 := 134) rfl rfl (h_gC rfl rfl rfl rfl) rfl ?_
        refine w_p (pc1 := 135) rfl rfl ?_
        refine w_m0 (pc1 := 136) (st1 := .int 0 :: _) rfl rfl (n_ble (e := i) rfl rfl (by decide) rfl (by omega) (a2)) rfl ?_
        refine w_t (a := 143) (b := 139) rfl rfl rfl ?_
        refine w_p (pc1 := 144) (st1 := .int 0 :: _) rfl rfl ?_
        refine w_m0 (pc1 := 145) rfl rfl (n_bs (e := i) rfl rfl (by decide) rfl (by omega)) rfl ?_
        refine w_iinc (pc1 := 148) (u := nI (i)) (z := nI (i + 1)) (al1 := [(2, .int (nI (i + 1))), (0, .ref 176)]) rfl rfl rfl nK_1 rfl rfl ?_
        refine w_p (pc1 := 110) rfl rfl ?_
        exact ih
set_option maxRecDepth 100000 in
theorem lp_283 (hw : ∀ j, j < 24 → C0.1 91 j = ck (wt j)) (hn : ∀ j, j < 24 → C0.1 139 j = ck (nm j)) (k : ∀ C', flU C0 C' 91 24 (fun j => ck (wt j && !nm j)) → Wd L xs d y_283 (53, [(1, .int (nI 24)), (0, .ref 176)], [], MH C' t, sl) P X) : ∀ (f i : Nat) (C : co_T), i + f = 24 → flU C0 C 91 i (fun j => ck (wt j && !nm j)) → Wd L xs d y_283 (12, [(1, .int (nI i)), (0, .ref 176)], [], MH C t, sl) P X
  | 0, i, C, hi, F => by
    obtain rfl : i = 24 := by omega
    refine w_p (pc1 := 13) rfl rfl ?_
    refine w_p (pc1 := 15) (st1 := .int 24 :: _) rfl rfl ?_
    refine w_t (a := 53) (b := 18) (bN_ge_t (a := 24) (b := 24) (by omega) (by omega) (by omega)) rfl rfl ?_
    exact k C F
  | f + 1, i, C, hi, F => by
    have a1 : C.1 91 i = ck (wt i) := (F.1 91 i (by omega)).trans (hw i (by omega))
    have a2 : C.1 139 i = ck (nm i) := (F.1 139 i (by omega)).trans (hn i (by omega))
    cases e1 : wt i with
    | false =>
      rw [e1] at a1
      have F2 := flU_s F
      have ih := lp_283 hw hn k f (i + 1) _ (by omega) F2
      simp only [e1, Bool.false_and] at ih
      refine w_p (pc1 := 13) rfl rfl ?_
      refine w_p (pc1 := 15) (st1 := .int 24 :: _) rfl rfl ?_
      refine w_f (a := 53) (b := 18) (bN_ge_f (a := i) (b := 24) (by omega) (by omega) (by omega)) rfl rfl ?_
      refine w_p (pc1 := 19) rfl rfl ?_
      refine w_m0 (pc1 := 22) rfl rfl (h_gC rfl rfl rfl rfl) rfl ?_
      refine w_p (pc1 := 23) rfl rfl ?_
      refine w_p (pc1 := 24) rfl rfl ?_
      refine w_m0 (pc1 := 27) rfl rfl (h_gC rfl rfl rfl rfl) rfl ?_
      refine w_p (pc1 := 28) rfl rfl ?_
      refine w_m0 (pc1 := 29) (st1 := .int 0 :: _) rfl rfl (n_ble (e := i) rfl rfl (by decide) rfl (by omega) (a1)) rfl ?_
      refine w_t (a := 45) (b := 32) rfl rfl rfl ?_
      refine w_p (pc1 := 46) (st1 := .int 0 :: _) rfl rfl ?_
      refine w_m0 (pc1 := 47) rfl rfl (n_bs (e := i) rfl rfl (by decide) rfl (by omega)) rfl ?_
      refine w_iinc (pc1 := 50) (u := nI (i)) (z := nI (i + 1)) (al1 := [(1, .int (nI (i + 1))), (0, .ref 176)]) rfl rfl rfl nK_1 rfl rfl ?_
      refine w_p (pc1 := 12) rfl rfl ?_
      exact ih
    | true =>
      rw [e1] at a1
      cases e2 : nm i with
      | true =>
        rw [e2] at a2
        have F2 := flU_s F
        have ih := lp_283 hw hn k f (i + 1) _ (by omega) F2
        simp only [e1, e2, Bool.true_and, Bool.not_true, Bool.not_false] at ih
        refine w_p (pc1 := 13) rfl rfl ?_
        refine w_p (pc1 := 15) (st1 := .int 24 :: _) rfl rfl ?_
        refine w_f (a := 53) (b := 18) (bN_ge_f (a := i) (b := 24) (by omega) (by omega) (by omega)) rfl rfl ?_
        refine w_p (pc1 := 19) rfl rfl ?_
        refine w_m0 (pc1 := 22) rfl rfl (h_gC rfl rfl rfl rfl) rfl ?_
        refine w_p (pc1 := 23) rfl rfl ?_
        refine w_p (pc1 := 24) rfl rfl ?_
        refine w_m0 (pc1 := 27) rfl rfl (h_gC rfl rfl rfl rfl) rfl ?_
        refine w_p (pc1 := 28) rfl rfl ?_
        refine w_m0 (pc1 := 29) (st1 := .int 1 :: _) rfl rfl (n_ble (e := i) rfl rfl (by decide) rfl (by omega) (a1)) rfl ?_
        refine w_f (a := 45) (b := 32) rfl rfl rfl ?_
        refine w_p (pc1 := 33) rfl rfl ?_
        refine w_m0 (pc1 := 36) rfl rfl (h_gC rfl rfl rfl rfl) rfl ?_
        refine w_p (pc1 := 37) rfl rfl ?_
        refine w_m0 (pc1 := 38) (st1 := .int 1 :: _) rfl rfl (n_ble (e := i) rfl rfl (by decide) rfl (by omega) (a2)) rfl ?_
        refine w_t (a := 45) (b := 41) rfl rfl rfl ?_
        refine w_p (pc1 := 46) (st1 := .int 0 :: _) rfl rfl ?_
        refine w_m0 (pc1 := 47) rfl rfl (n_bs (e := i) rfl rfl (by decide) rfl (by omega)) rfl ?_
        refine w_iinc (pc1 := 50) (u := nI (i)) (z := nI (i + 1)) (al1 := [(1, .int (nI (i + 1))), (0, .ref 176)]) rfl rfl rfl nK_1 rfl rfl ?_
        refine w_p (pc1 := 12) rfl rfl ?_
        exact ih
      | false =>
        rw [e2] at a2
        have F2 := flU_s F
        have ih := lp_283 hw hn k f (i + 1) _ (by omega) F2
        simp only [e1, e2, Bool.true_and, Bool.not_true, Bool.not_false] at ih
        refine w_p (pc1 := 13) rfl rfl ?_
        refine w_p (pc1 := 15) (st1 := .int 24 :: _) rfl rfl ?_
        refine w_f (a := 53) (b := 18) (bN_ge_f (a := i) (b := 24) (by omega) (by omega) (by omega)) rfl rfl ?_
        refine w_p (pc1 := 19) rfl rfl ?_
        refine w_m0 (pc1 := 22) rfl rfl (h_gC rfl rfl rfl rfl) rfl ?_
        refine w_p (pc1 := 23) rfl rfl ?_
        refine w_p (pc1 := 24) rfl rfl ?_
        refine w_m0 (pc1 := 27) rfl rfl (h_gC rfl rfl rfl rfl) rfl ?_
        refine w_p (pc1 := 28) rfl rfl ?_
        refine w_m0 (pc1 := 29) (st1 := .int 1 :: _) rfl rfl (n_ble (e := i) rfl rfl (by decide) rfl (by omega) (a1)) rfl ?_
        refine w_f (a := 45) (b := 32) rfl rfl rfl ?_
        refine w_p (pc1 := 33) rfl rfl ?_
        refine w_m0 (pc1 := 36) rfl rfl (h_gC rfl rfl rfl rfl) rfl ?_
        refine w_p (pc1 := 37) rfl rfl ?_
        refine w_m0 (pc1 := 38) (st1 := .int 0 :: _) rfl rfl (n_ble (e := i) rfl rfl (by decide) rfl (by omega) (a2)) rfl ?_
        refine w_f (a := 45) (b := 41) rfl rfl rfl ?_
        refine w_p (pc1 := 42) (st1 := .int 1 :: _) rfl rfl ?_
        refine w_p (pc1 := 46) rfl rfl ?_
        refine w_m0 (pc1 := 47) rfl rfl (n_bs (e := i) rfl rfl (by decide) rfl (by omega)) rfl ?_
        refine w_iinc (pc1 := 50) (u := nI (i)) (z := nI (i + 1)) (al1 := [(1, .int (nI (i + 1))), (0, .ref 176)]) rfl rfl rfl nK_1 rfl rfl ?_
        refine w_p (pc1 := 12) rfl rfl ?_
        exact ih
set_option maxRecDepth 100000 in
theorem lp_284 (hw : ∀ j, j < 24 → C0.1 83 j = ck (wt j)) (hn : ∀ j, j < 24 → wt j = true → C0.1 90 j = ck (nm j)) (k : ∀ C', flU C0 C' 91 24 (fun j => ck (wt j && nm j)) → Wd L xs d y_284 (202, [(1, .int (nI 24)), (0, .ref 176)], [], MH C' t, sl) P X) : ∀ (f i : Nat) (C : co_T), i + f = 24 → flU C0 C 91 i (fun j => ck (wt j && nm j)) → Wd L xs d y_284 (161, [(1, .int (nI i)), (0, .ref 176)], [], MH C t, sl) P X
  | 0, i, C, hi, F => by
    obtain rfl : i = 24 := by omega
    refine w_p (pc1 := 162) rfl rfl ?_
    refine w_p (pc1 := 164) (st1 := .int 24 :: _) rfl rfl ?_
    refine w_t (a := 202) (b := 167) (bN_ge_t (a := 24) (b := 24) (by omega) (by omega) (by omega)) rfl rfl ?_
    exact k C F
  | f + 1, i, C, hi, F => by
    have a1 : C.1 83 i = ck (wt i) := (F.1 83 i (by omega)).trans (hw i (by omega))
    cases e1 : wt i with
    | false =>
      rw [e1] at a1
      have F2 := flU_s F
      have ih := lp_284 hw hn k f (i + 1) _ (by omega) F2
      simp only [e1, Bool.false_and] at ih
      refine w_p (pc1 := 162) rfl rfl ?_
      refine w_p (pc1 := 164) (st1 := .int 24 :: _) rfl rfl ?_
      refine w_f (a := 202) (b := 167) (bN_ge_f (a := i) (b := 24) (by omega) (by omega) (by omega)) rfl rfl ?_
      refine w_p (pc1 := 168) rfl rfl ?_
      refine w_m0 (pc1 := 171) rfl rfl (h_gC rfl rfl rfl rfl) rfl ?_
      refine w_p (pc1 := 172) rfl rfl ?_
      refine w_p (pc1 := 173) rfl rfl ?_
      refine w_m0 (pc1 := 176) rfl rfl (h_gC rfl rfl rfl rfl) rfl ?_
      refine w_p (pc1 := 177) rfl rfl ?_
      refine w_m0 (pc1 := 178) (st1 := .int 0 :: _) rfl rfl (n_ble (e := i) rfl rfl (by decide) rfl (by omega) (a1)) rfl ?_
      refine w_t (a := 194) (b := 181) rfl rfl rfl ?_
      refine w_p (pc1 := 195) (st1 := .int 0 :: _) rfl rfl ?_
      refine w_m0 (pc1 := 196) rfl rfl (n_bs (e := i) rfl rfl (by decide) rfl (by omega)) rfl ?_
      refine w_iinc (pc1 := 199) (u := nI (i)) (z := nI (i + 1)) (al1 := [(1, .int (nI (i + 1))), (0, .ref 176)]) rfl rfl rfl nK_1 rfl rfl ?_
      refine w_p (pc1 := 161) rfl rfl ?_
      exact ih
    | true =>
      rw [e1] at a1
      have a2 : C.1 90 i = ck (nm i) := (F.1 90 i (by omega)).trans (hn i (by omega) e1)
      cases e2 : nm i with
      | true =>
        rw [e2] at a2
        have F2 := flU_s F
        have ih := lp_284 hw hn k f (i + 1) _ (by omega) F2
        simp only [e1, e2, Bool.true_and] at ih
        refine w_p (pc1 := 162) rfl rfl ?_
        refine w_p (pc1 := 164) (st1 := .int 24 :: _) rfl rfl ?_
        refine w_f (a := 202) (b := 167) (bN_ge_f (a := i) (b := 24) (by omega) (by omega) (by omega)) rfl rfl ?_
        refine w_p (pc1 := 168) rfl rfl ?_
        refine w_m0 (pc1 := 171) rfl rfl (h_gC rfl rfl rfl rfl) rfl ?_
        refine w_p (pc1 := 172) rfl rfl ?_
        refine w_p (pc1 := 173) rfl rfl ?_
        refine w_m0 (pc1 := 176) rfl rfl (h_gC rfl rfl rfl rfl) rfl ?_
        refine w_p (pc1 := 177) rfl rfl ?_
        refine w_m0 (pc1 := 178) (st1 := .int 1 :: _) rfl rfl (n_ble (e := i) rfl rfl (by decide) rfl (by omega) (a1)) rfl ?_
        refine w_f (a := 194) (b := 181) rfl rfl rfl ?_
        refine w_p (pc1 := 182) rfl rfl ?_
        refine w_m0 (pc1 := 185) rfl rfl (h_gC rfl rfl rfl rfl) rfl ?_
        refine w_p (pc1 := 186) rfl rfl ?_
        refine w_m0 (pc1 := 187) (st1 := .int 1 :: _) rfl rfl (n_ble (e := i) rfl rfl (by decide) rfl (by omega) (a2)) rfl ?_
        refine w_f (a := 194) (b := 190) rfl rfl rfl ?_
        refine w_p (pc1 := 191) (st1 := .int 1 :: _) rfl rfl ?_
        refine w_p (pc1 := 195) rfl rfl ?_
        refine w_m0 (pc1 := 196) rfl rfl (n_bs (e := i) rfl rfl (by decide) rfl (by omega)) rfl ?_
        refine w_iinc (pc1 := 199) (u := nI (i)) (z := nI (i + 1)) (al1 := [(1, .int (nI (i + 1))), (0, .ref 176)]) rfl rfl rfl nK_1 rfl rfl ?_
        refine w_p (pc1 := 161) rfl rfl ?_
        exact ih
      | false =>
        rw [e2] at a2
        have F2 := flU_s F
        have ih := lp_284 hw hn k f (i + 1) _ (by omega) F2
        simp only [e1, e2, Bool.true_and] at ih
        refine w_p (pc1 := 162) rfl rfl ?_
        refine w_p (pc1 := 164) (st1 := .int 24 :: _) rfl rfl ?_
        refine w_f (a := 202) (b := 167) (bN_ge_f (a := i) (b := 24) (by omega) (by omega) (by omega)) rfl rfl ?_
        refine w_p (pc1 := 168) rfl rfl ?_
        refine w_m0 (pc1 := 171) rfl rfl (h_gC rfl rfl rfl rfl) rfl ?_
        refine w_p (pc1 := 172) rfl rfl ?_
        refine w_p (pc1 := 173) rfl rfl ?_
        refine w_m0 (pc1 := 176) rfl rfl (h_gC rfl rfl rfl rfl) rfl ?_
        refine w_p (pc1 := 177) rfl rfl ?_
        refine w_m0 (pc1 := 178) (st1 := .int 1 :: _) rfl rfl (n_ble (e := i) rfl rfl (by decide) rfl (by omega) (a1)) rfl ?_
        refine w_f (a := 194) (b := 181) rfl rfl rfl ?_
        refine w_p (pc1 := 182) rfl rfl ?_
        refine w_m0 (pc1 := 185) rfl rfl (h_gC rfl rfl rfl rfl) rfl ?_
        refine w_p (pc1 := 186) rfl rfl ?_
        refine w_m0 (pc1 := 187) (st1 := .int 0 :: _) rfl rfl (n_ble (e := i) rfl rfl (by decide) rfl (by omega) (a2)) rfl ?_
        refine w_t (a := 194) (b := 190) rfl rfl rfl ?_
        refine w_p (pc1 := 195) (st1 := .int 0 :: _) rfl rfl ?_
        refine w_m0 (pc1 := 196) rfl rfl (n_bs (e := i) rfl rfl (by decide) rfl (by omega)) rfl ?_
        refine w_iinc (pc1 := 199) (u := nI (i)) (z := nI (i + 1)) (al1 := [(1, .int (nI (i + 1))), (0, .ref 176)]) rfl rfl rfl nK_1 rfl rfl ?_
        refine w_p (pc1 := 161) rfl rfl ?_
        exact ih
set_option maxRecDepth 100000 in
theorem m_280 : Wd L xs d y_280 (0, [(0, .ref 176)], [], MH C t, sl) (fun v h q => none = v ∧ (∃ C', flU (sI (sI C 76 69 0) 76 70 0) C' 91 24 (fun _ => 0) ∧ MH C' t = h) ∧ sl = q) nX := by
  refine w_p (pc1 := 1) rfl rfl ?_
  refine w_p (pc1 := 2) (st1 := .int 0 :: _) rfl rfl ?_
  refine w_m0 (pc1 := 5) rfl rfl (h_pI (j := 69) rfl rfl rfl rfl rfl rfl rfl ⟨rfl, rfl⟩ rfl) rfl ?_
  refine w_p (pc1 := 6) rfl rfl ?_
  refine w_p (pc1 := 7) (st1 := .int 0 :: _) rfl rfl ?_
  refine w_m0 (pc1 := 10) rfl rfl (h_pI (j := 70) rfl rfl rfl rfl rfl rfl rfl ⟨rfl, rfl⟩ rfl) rfl ?_
  refine w_p (pc1 := 11) (st1 := .int 0 :: _) rfl rfl ?_
  refine w_p (pc1 := 12) (al1 := [(1, .int 0), (0, .ref 176)]) rfl rfl ?_
  refine lp_280 (C0 := sI (sI C 76 69 0) 76 70 0) (fun C' F' => ?_) 24 0 _ rfl flU_0
  refine w_r rfl rfl rfl (fun _ _ => rfl) rfl ?_
  exact ⟨rfl, ⟨C', F', rfl⟩, rfl⟩
end FLG
