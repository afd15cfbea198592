
/-! THE OTHER SIDE: a table goes, may it go -/
section DRN
variable {L : Nat} {xs : Nat → Int32} {B : Nat → Nat} {n m : Nat} {C C' C0 C1 : co_T} {t t0 t1 : ab_H} {d sl sl0 sl1 i i0 i1 j b e ti k k0 kc ks w c : Nat} {sc : sc_T} {row : Option Nat} {tg : Option (Nat × Nat)} {nl : Option Nat} {kd0 tb0 : Int32} {P : Option Value → ab_H → Nat → Prop} {X : Nat → ab_H → Nat → Prop} {cs : List Nat} {ss : List (Option (List op_T))} {E : fe_T} {tr : Nat → Option tr_T} {ru : Nat → Option ru_T} {a ag : Nat → Bool} {tb tbg : Nat → Nat}
def dmC (C : co_T) (b : Nat) : co_T := sI (sI (sI C 78 b 0) 117 b 0) 118 b 1
set_option maxRecDepth 100000 in
theorem dmC_o {q : Nat} (h1 : q ≠ 78) (h2 : q ≠ 117) (h3 : q ≠ 118) : (dmC C b).1 q j = C.1 q j := by
  unfold dmC
  rw [sI_1, if_neg (fun z => h3 z.1), sI_1, if_neg (fun z => h2 z.1), sI_1, if_neg (fun z => h1 z.1)]
set_option maxRecDepth 100000 in
theorem m_286 (hb : b < 6) (hw : ∀ j, j < 24 → C.1 83 j = ck (a j)) (hn : ∀ j, j < 24 → a j = true → C.1 85 j = nI (tb j) ∧ tb j < 6) (hw2 : ∀ j, j < 8 → C.1 95 j = ck (ag j)) (hn2 : ∀ j, j < 8 → ag j = true → C.1 97 j = nI (tbg j) ∧ tbg j < 6) : Wd L xs d y_286 (0, [(0, .ref 176), (1, .int (nI b))], [], MH C t, sl) (fun v h q => none = v ∧ (∃ C1 C2, flU (dmC C b) C1 83 24 (fun j => ck (a j && !decide (tb j = b))) ∧ flU C1 C2 95 8 (fun j => ck (ag j && !decide (tbg j = b))) ∧ MH C2 t = h) ∧ sl = q) nX := by
  refine w_p (pc1 := 1) rfl rfl ?_
  refine w_m0 (pc1 := 4) rfl rfl (h_gC rfl rfl rfl rfl) rfl ?_
  refine w_p (pc1 := 5) rfl rfl ?_
  refine w_p (pc1 := 6) (st1 := .int 0 :: _) rfl rfl ?_
  refine w_m0 (pc1 := 7) rfl rfl (n_bs (e := b) rfl rfl (by decide) rfl (by omega)) rfl ?_
  refine w_p (pc1 := 8) rfl rfl ?_
  refine w_m0 (pc1 := 11) rfl rfl (h_gC rfl rfl rfl rfl) rfl ?_
  refine w_p (pc1 := 12) rfl rfl ?_
  refine w_p (pc1 := 13) (st1 := .int 0 :: _) rfl rfl ?_
  refine w_m0 (pc1 := 14) rfl rfl (n_is (e := b) rfl rfl rfl (by omega)) rfl ?_
  refine w_p (pc1 := 15) rfl rfl ?_
  refine w_m0 (pc1 := 18) rfl rfl (h_gC rfl rfl rfl rfl) rfl ?_
  refine w_p (pc1 := 19) rfl rfl ?_
  refine w_p (pc1 := 20) (st1 := .int 1 :: _) rfl rfl ?_
  refine w_m0 (pc1 := 21) rfl rfl (n_is (e := b) rfl rfl rfl (by omega)) rfl ?_
  refine w_p (pc1 := 22) (st1 := .int 0 :: _) rfl rfl ?_
  refine w_p (pc1 := 23) (al1 := [(2, .int 0), (0, .ref 176), (1, .int (nI (b)))]) rfl rfl ?_
  refine lp_286a (C0 := dmC C b) (a := a) (tb := tb) hb (fun j hj => (dmC_o (by decide) (by decide) (by decide)).trans (hw j hj)) (fun j hj e => ⟨(dmC_o (by decide) (by decide) (by decide)).trans (hn j hj e).1, (hn j hj e).2⟩) (fun C1 F1 => ?_) 24 0 _ rfl flU_0
  refine w_p (pc1 := 66) (st1 := .int 0 :: _) rfl rfl ?_
  refine w_p (pc1 := 67) (al1 := [(2, .int 0), (0, .ref 176), (1, .int (nI (b)))]) rfl rfl ?_
  refine lp_286b (C0 := C1) (a := ag) (tb := tbg) hb (fun j hj => (F1.1 95 j (by omega)).trans ((dmC_o (by decide) (by decide) (by decide)).trans (hw2 j hj))) (fun j hj e => ⟨(F1.1 97 j (by omega)).trans ((dmC_o (by decide) (by decide) (by decide)).trans (hn2 j hj e).1), (hn2 j hj e).2⟩) (fun C2 F2 => ?_) 8 0 _ rfl flU_0
  refine w_r rfl rfl rfl (fun _ _ => rfl) rfl ?_
  exact ⟨rfl, ⟨C1, C2, F1, F2, rfl⟩, rfl⟩
def RfM (C : co_T) (ru : Nat → Option ru_T) : Prop := ∀ j, j < 24 → match ru j with
  | none => C.1 83 j = 0
  | some u => C.1 83 j = 1 ∧ (C.1 85 j = nI (rTb u) ∧ rTb u < 6) ∧ (C.1 84 j = nI (rKd u) ∧ rKd u < 6) ∧ C.1 86 j = tgI (rTg u) ∧ ∀ q, rTg u = some q → q < 6 ∧ rKd u = 4
def GfM (C : co_T) (tr : Nat → Option tr_T) : Prop := ∀ j, j < 8 → match tr j with
  | none => C.1 95 j = 0
  | some g => C.1 95 j = 1 ∧ (C.1 97 j = nI (gTb g) ∧ gTb g < 6) ∧ C.1 101 j = tgI (aTb (gAc g)) ∧ ∀ q, aTb (gAc g) = some q → q < 6
set_option maxRecDepth 100000 in
theorem lp_285a (hb : b < 6) (hR : RfM C ru) {z0 : Bool} (k : Wd L xs d y_285 (65, [(3, .int (nI 24)), (2, .int (ck z0)), (0, .ref 176), (1, .int (nI b))], [], MH C t, sl) P X) : ∀ (f i : Nat) (z : Bool), i + f = 24 → (z || !allN (fun i => fgU b (ru i)) f i) = z0 → Wd L xs d y_285 (4, [(3, .int (nI i)), (2, .int (ck z)), (0, .ref 176), (1, .int (nI b))], [], MH C t, sl) P X
  | 0, i, z, hi, hz => by
    obtain rfl : i = 24 := by omega
    have ez : z = z0 := by rw [← hz]; exact (Bool.or_false z).symm
    subst ez
    cases z with
    | true =>
      refine w_p (pc1 := 5) rfl rfl ?_
      refine w_p (pc1 := 7) (st1 := .int 24 :: _) rfl rfl ?_
      refine w_t (a := 65) (b := 10) (bN_ge_t (a := 24) (b := 24) (by omega) (by omega) (by omega)) rfl rfl ?_
      exact k
    | false =>
      refine w_p (pc1 := 5) rfl rfl ?_
      refine w_p (pc1 := 7) (st1 := .int 24 :: _) rfl rfl ?_
      refine w_t (a := 65) (b := 10) (bN_ge_t (a := 24) (b := 24) (by omega) (by omega) (by omega)) rfl rfl ?_
      exact k
  | f + 1, i, z, hi, hz => by
    cases z with
    | true =>
      have ih := lp_285a hb hR k f (i + 1) true (by omega) (by rw [← hz, Bool.true_or, Bool.true_or])
      refine w_p (pc1 := 5) rfl rfl ?_
      refine w_p (pc1 := 7) (st1 := .int 24 :: _) rfl rfl ?_
      refine w_f (a := 65) (b := 10) (bN_ge_f (a := i) (b := 24) (by omega) (by omega) (by omega)) rfl rfl ?_
      refine w_p (pc1 := 11) rfl rfl ?_
      refine w_t (a := 53) (b := 14) rfl rfl rfl ?_
      refine w_p (pc1 := 54) (st1 := .int 1 :: _) rfl rfl ?_
      refine w_p (pc1 := 58) rfl rfl ?_
      refine w_p (pc1 := 59) (al1 := [(2, .int 1), (3, .int (nI (i))), (0, .ref 176), (1, .int (nI (b)))]) rfl rfl ?_
      refine w_iinc (pc1 := 62) (u := nI (i)) (z := nI (i + 1)) (al1 := [(3, .int (nI (i + 1))), (2, .int 1), (0, .ref 176), (1, .int (nI (b)))]) rfl rfl rfl nK_1 rfl rfl ?_
      refine w_p (pc1 := 4) rfl rfl ?_
      exact ih
    | false =>
      have hq := hR i (by omega)
      have es : ∀ w : Bool, fgU b (ru i) = !w → (w || !allN (fun i => fgU b (ru i)) f (i + 1)) = z0 := fun w hw => by
        rw [← hz, allN, hw]
        cases w <;> rfl
      cases e : ru i with
      | none =>
        rw [e] at hq es
        have hq : C.1 83 i = 0 := hq
        have ih := lp_285a hb hR k f (i + 1) false (by omega) (es false rfl)
        refine w_p (pc1 := 5) rfl rfl ?_
        refine w_p (pc1 := 7) (st1 := .int 24 :: _) rfl rfl ?_
        refine w_f (a := 65) (b := 10) (bN_ge_f (a := i) (b := 24) (by omega) (by omega) (by omega)) rfl rfl ?_
        refine w_p (pc1 := 11) rfl rfl ?_
        refine w_f (a := 53) (b := 14) rfl rfl rfl ?_
        refine w_p (pc1 := 15) rfl rfl ?_
        refine w_m0 (pc1 := 18) rfl rfl (h_gC rfl rfl rfl rfl) rfl ?_
        refine w_p (pc1 := 19) rfl rfl ?_
        refine w_m0 (pc1 := 20) (st1 := .int 0 :: _) rfl rfl (n_ble (e := i) rfl rfl (by decide) rfl (by omega) (hq)) rfl ?_
        refine w_t (a := 57) (b := 23) rfl rfl rfl ?_
        refine w_p (pc1 := 58) (st1 := .int 0 :: _) rfl rfl ?_
        refine w_p (pc1 := 59) (al1 := [(2, .int 0), (3, .int (nI (i))), (0, .ref 176), (1, .int (nI (b)))]) rfl rfl ?_
        refine w_iinc (pc1 := 62) (u := nI (i)) (z := nI (i + 1)) (al1 := [(3, .int (nI (i + 1))), (2, .int 0), (0, .ref 176), (1, .int (nI (b)))]) rfl rfl rfl nK_1 rfl rfl ?_
        refine w_p (pc1 := 4) rfl rfl ?_
        exact ih
      | some u =>
        rw [e] at hq es
        obtain ⟨h1, ⟨h2, h3⟩, ⟨h4, h5⟩, h6, h7⟩ := hq
        by_cases c1 : rTb u = b
        · have ih := lp_285a hb hR k f (i + 1) false (by omega) (es false (by show (decide (rTb u = b) || !decide (rTg u = some b)) = true; rw [decide_eq_true c1]; rfl))
          refine w_p (pc1 := 5) rfl rfl ?_
          refine w_p (pc1 := 7) (st1 := .int 24 :: _) rfl rfl ?_
          refine w_f (a := 65) (b := 10) (bN_ge_f (a := i) (b := 24) (by omega) (by omega) (by omega)) rfl rfl ?_
          refine w_p (pc1 := 11) rfl rfl ?_
          refine w_f (a := 53) (b := 14) rfl rfl rfl ?_
          refine w_p (pc1 := 15) rfl rfl ?_
          refine w_m0 (pc1 := 18) rfl rfl (h_gC rfl rfl rfl rfl) rfl ?_
          refine w_p (pc1 := 19) rfl rfl ?_
          refine w_m0 (pc1 := 20) (st1 := .int 1 :: _) rfl rfl (n_ble (e := i) rfl rfl (by decide) rfl (by omega) (h1)) rfl ?_
          refine w_f (a := 57) (b := 23) rfl rfl rfl ?_
          refine w_p (pc1 := 24) rfl rfl ?_
          refine w_m0 (pc1 := 27) rfl rfl (h_gC rfl rfl rfl rfl) rfl ?_
          refine w_p (pc1 := 28) rfl rfl ?_
          refine w_m0 (pc1 := 29) (st1 := .int (nI (rTb u)) :: _) rfl rfl (n_ile (e := i) rfl rfl rfl (by omega) (h2)) rfl ?_
          refine w_p (pc1 := 30) rfl rfl ?_
          refine w_t (a := 57) (b := 33) (bN_eq_t (a := rTb u) (b := b) (by omega) (by omega) (by omega)) rfl rfl ?_
          refine w_p (pc1 := 58) (st1 := .int 0 :: _) rfl rfl ?_
          refine w_p (pc1 := 59) (al1 := [(2, .int 0), (3, .int (nI (i))), (0, .ref 176), (1, .int (nI (b)))]) rfl rfl ?_
          refine w_iinc (pc1 := 62) (u := nI (i)) (z := nI (i + 1)) (al1 := [(3, .int (nI (i + 1))), (2, .int 0), (0, .ref 176), (1, .int (nI (b)))]) rfl rfl rfl nK_1 rfl rfl ?_
          refine w_p (pc1 := 4) rfl rfl ?_
          exact ih
        · by_cases c2 : rKd u = 4
          · have ht := tgI_y (fun q hq => (h7 q hq).1) hb
            by_cases c3 : rTg u = some b
            · have ih := lp_285a hb hR k f (i + 1) true (by omega) (es true (by show (decide (rTb u = b) || !decide (rTg u = some b)) = false; rw [decide_eq_false c1, decide_eq_true c3]; rfl))
              refine w_p (pc1 := 5) rfl rfl ?_
              refine w_p (pc1 := 7) (st1 := .int 24 :: _) rfl rfl ?_
              refine w_f (a := 65) (b := 10) (bN_ge_f (a := i) (b := 24) (by omega) (by omega) (by omega)) rfl rfl ?_
              refine w_p (pc1 := 11) rfl rfl ?_
              refine w_f (a := 53) (b := 14) rfl rfl rfl ?_
              refine w_p (pc1 := 15) rfl rfl ?_
              refine w_m0 (pc1 := 18) rfl rfl (h_gC rfl rfl rfl rfl) rfl ?_
              refine w_p (pc1 := 19) rfl rfl ?_
              refine w_m0 (pc1 := 20) (st1 := .int 1 :: _) rfl rfl (n_ble (e := i) rfl rfl (by decide) rfl (by omega) (h1)) rfl ?_
              refine w_f (a := 57) (b := 23) rfl rfl rfl ?_
              refine w_p (pc1 := 24) rfl rfl ?_
              refine w_m0 (pc1 := 27) rfl rfl (h_gC rfl rfl rfl rfl) rfl ?_
              refine w_p (pc1 := 28) rfl rfl ?_
              refine w_m0 (pc1 := 29) (st1 := .int (nI (rTb u)) :: _) rfl rfl (n_ile (e := i) rfl rfl rfl (by omega) (h2)) rfl ?_
              refine w_p (pc1 := 30) rfl rfl ?_
              refine w_f (a := 57) (b := 33) (bN_eq_f (a := rTb u) (b := b) (by omega) (by omega) (by omega)) rfl rfl ?_
              refine w_p (pc1 := 34) rfl rfl ?_
              refine w_m0 (pc1 := 37) rfl rfl (h_gC rfl rfl rfl rfl) rfl ?_
              refine w_p (pc1 := 38) rfl rfl ?_
              refine w_m0 (pc1 := 39) (st1 := .int (nI (rKd u)) :: _) rfl rfl (n_ile (e := i) rfl rfl rfl (by omega) (h4)) rfl ?_
              refine w_p (pc1 := 40) (st1 := .int 4 :: _) rfl rfl ?_
              refine w_f (a := 57) (b := 43) (bN_ne_f (a := rKd u) (b := 4) (by omega) (by omega) (by omega)) rfl rfl ?_
              refine w_p (pc1 := 44) rfl rfl ?_
              refine w_m0 (pc1 := 47) rfl rfl (h_gC rfl rfl rfl rfl) rfl ?_
              refine w_p (pc1 := 48) rfl rfl ?_
              refine w_m0 (pc1 := 49) (st1 := .int (tgI (rTg u)) :: _) rfl rfl (n_ile (e := i) rfl rfl rfl (by omega) (h6)) rfl ?_
              refine w_p (pc1 := 50) rfl rfl ?_
              refine w_f (a := 57) (b := 53) (cb_ne_f (by exact ht.mpr c3)) rfl rfl ?_
              refine w_p (pc1 := 54) (st1 := .int 1 :: _) rfl rfl ?_
              refine w_p (pc1 := 58) rfl rfl ?_
              refine w_p (pc1 := 59) (al1 := [(2, .int 1), (3, .int (nI (i))), (0, .ref 176), (1, .int (nI (b)))]) rfl rfl ?_
              refine w_iinc (pc1 := 62) (u := nI (i)) (z := nI (i + 1)) (al1 := [(3, .int (nI (i + 1))), (2, .int 1), (0, .ref 176), (1, .int (nI (b)))]) rfl rfl rfl nK_1 rfl rfl ?_
              refine w_p (pc1 := 4) rfl rfl ?_
              exact ih
            · have ih := lp_285a hb hR k f (i + 1) false (by omega) (es false (by show (decide (rTb u = b) || !decide (rTg u = some b)) = true; rw [decide_eq_false c1, decide_eq_false c3]; rfl))
              refine w_p (pc1 := 5) rfl rfl ?_
              refine w_p (pc1 := 7) (st1 := .int 24 :: _) rfl rfl ?_
              refine w_f (a := 65) (b := 10) (bN_ge_f (a := i) (b := 24) (by omega) (by omega) (by omega)) rfl rfl ?_
              refine w_p (pc1 := 11) rfl rfl ?_
              refine w_f (a := 53) (b := 14) rfl rfl rfl ?_
              refine w_p (pc1 := 15) rfl rfl ?_
              refine w_m0 (pc1 := 18) rfl rfl (h_gC rfl rfl rfl rfl) rfl ?_
              refine w_p (pc1 := 19) rfl rfl ?_
              refine w_m0 (pc1 := 20) (st1 := .int 1 :: _) rfl rfl (n_ble (e := i) rfl rfl (by decide) rfl (by omega) (h1)) rfl ?_
              refine w_f (a := 57) (b := 23) rfl rfl rfl ?_
              refine w_p (pc1 := 24) rfl rfl ?_
              refine w_m0 (pc1 := 27) rfl rfl (h_gC rfl rfl rfl rfl) rfl ?_
              refine w_p (pc1 := 28) rfl rfl ?_
              refine w_m0 (pc1 := 29) (st1 := .int (nI (rTb u)) :: _) rfl rfl (n_ile (e := i) rfl rfl rfl (by omega) (h2)) rfl ?_
              refine w_p (pc1 := 30) rfl rfl ?_
              refine w_f (a := 57) (b := 33) (bN_eq_f (a := rTb u) (b := b) (by omega) (by omega) (by omega)) rfl rfl ?_
              refine w_p (pc1 := 34) rfl rfl ?_
              refine w_m0 (pc1 := 37) rfl rfl (h_gC rfl rfl rfl rfl) rfl ?_
              refine w_p (pc1 := 38) rfl rfl ?_
              refine w_m0 (pc1 := 39) (st1 := .int (nI (rKd u)) :: _) rfl rfl (n_ile (e := i) rfl rfl rfl (by omega) (h4)) rfl ?_
              refine w_p (pc1 := 40) (st1 := .int 4 :: _) rfl rfl ?_
              refine w_f (a := 57) (b := 43) (bN_ne_f (a := rKd u) (b := 4) (by omega) (by omega) (by omega)) rfl rfl ?_
              refine w_p (pc1 := 44) rfl rfl ?_
              refine w_m0 (pc1 := 47) rfl rfl (h_gC rfl rfl rfl rfl) rfl ?_
              refine w_p (pc1 := 48) rfl rfl ?_
              refine w_m0 (pc1 := 49) (st1 := .int (tgI (rTg u)) :: _) rfl rfl (n_ile (e := i) rfl rfl rfl (by omega) (h6)) rfl ?_
              refine w_p (pc1 := 50) rfl rfl ?_
              refine w_t (a := 57) (b := 53) (cb_ne_t (by exact fun x => c3 (ht.mp x))) rfl rfl ?_
              refine w_p (pc1 := 58) (st1 := .int 0 :: _) rfl rfl ?_
              refine w_p (pc1 := 59) (al1 := [(2, .int 0), (3, .int (nI (i))), (0, .ref 176), (1, .int (nI (b)))]) rfl rfl ?_
              refine w_iinc (pc1 := 62) (u := nI (i)) (z := nI (i + 1)) (al1 := [(3, .int (nI (i + 1))), (2, .int 0), (0, .ref 176), (1, .int (nI (b)))]) rfl rfl rfl nK_1 rfl rfl ?_
              refine w_p (pc1 := 4) rfl rfl ?_
              exact ih
          · have c3 : ¬ rTg u = some b := fun x => c2 (h7 b x).2
            have ih := lp_285a hb hR k f (i + 1) false (by omega) (es false (by show (decide (rTb u = b) || !decide (rTg u = some b)) = true; rw [decide_eq_false c1, decide_eq_false c3]; rfl))
            refine w_p (pc1 := 5) rfl rfl ?_
            refine w_p (pc1 := 7) (st1 := .int 24 :: _) rfl rfl ?_
            refine w_f (a := 65) (b := 10) (bN_ge_f (a := i) (b := 24) (by omega) (by omega) (by omega)) rfl rfl ?_
            refine w_p (pc1 := 11) rfl rfl ?_
            refine w_f (a := 53) (b := 14) rfl rfl rfl ?_
            refine w_p (pc1 := 15) rfl rfl ?_
            refine w_m0 (pc1 := 18) rfl rfl (h_gC rfl rfl rfl rfl) rfl ?_
            refine w_p (pc1 := 19) rfl rfl ?_
            refine w_m0 (pc1 := 20) (st1 := .int 1 :: _) rfl rfl (n_ble (e := i) rfl rfl (by decide) rfl (by omega) (h1)) rfl ?_
            refine w_f (a := 57) (b := 23) rfl rfl rfl ?_
            refine w_p (pc1 := 24) rfl rfl ?_
            refine w_m0 (pc1 := 27) rfl rfl (h_gC rfl rfl rfl rfl) rfl ?_
            refine w_p (pc1 := 28) rfl rfl ?_
            refine w_m0 (pc1 := 29) (st1 := .int (nI (rTb u)) :: _) rfl rfl (n_ile (e := i) rfl rfl rfl (by omega) (h2)) rfl ?_
            refine w_p (pc1 := 30) rfl rfl ?_
            refine w_f (a := 57) (b := 33) (bN_eq_f (a := rTb u) (b := b) (by omega) (by omega) (by omega)) rfl rfl ?_
            refine w_p (pc1 := 34) rfl rfl ?_
            refine w_m0 (pc1 := 37) rfl rfl (h_gC rfl rfl rfl rfl) rfl ?_
            refine w_p (pc1 := 38) rfl rfl ?_
            refine w_m0 (pc1 := 39) (st1 := .int (nI (rKd u)) :: _) rfl rfl (n_ile (e := i) rfl rfl rfl (by omega) (h4)) rfl ?_
            refine w_p (pc1 := 40) (st1 := .int 4 :: _) rfl rfl ?_
            refine w_t (a := 57) (b := 43) (bN_ne_t (a := rKd u) (b := 4) (by omega) (by omega) (by omega)) rfl rfl ?_
            refine w_p (pc1 := 58) (st1 := .int 0 :: _) rfl rfl ?_
            refine w_p (pc1 := 59) (al1 := [(2, .int 0), (3, .int (nI (i))), (0, .ref 176), (1, .int (nI (b)))]) rfl rfl ?_
            refine w_iinc (pc1 := 62) (u := nI (i)) (z := nI (i + 1)) (al1 := [(3, .int (nI (i + 1))), (2, .int 0), (0, .ref 176), (1, .int (nI (b)))]) rfl rfl rfl nK_1 rfl rfl ?_
            refine w_p (pc1 := 4) rfl rfl ?_
            exact ih
set_option maxRecDepth 100000 in
theorem lp_285b (hb : b < 6) (hR : GfM C tr) {z0 : Bool} (k : Wd L xs d y_285 (118, [(3, .int (nI 8)), (2, .int (ck z0)), (0, .ref 176), (1, .int (nI b))], [], MH C t, sl) P X) : ∀ (f i : Nat) (z : Bool), i + f = 8 → (z || !allN (fun i => fgG b (tr i)) f i) = z0 → Wd L xs d y_285 (67, [(3, .int (nI i)), (2, .int (ck z)), (0, .ref 176), (1, .int (nI b))], [], MH C t, sl) P X
  | 0, i, z, hi, hz => by
    obtain rfl : i = 8 := by omega
    have ez : z = z0 := by rw [← hz]; exact (Bool.or_false z).symm
    subst ez
    cases z with
    | true =>
      refine w_p (pc1 := 68) rfl rfl ?_
      refine w_p (pc1 := 70) (st1 := .int 8 :: _) rfl rfl ?_
      refine w_t (a := 118) (b := 73) (bN_ge_t (a := 8) (b := 8) (by omega) (by omega) (by omega)) rfl rfl ?_
      exact k
    | false =>
      refine w_p (pc1 := 68) rfl rfl ?_
      refine w_p (pc1 := 70) (st1 := .int 8 :: _) rfl rfl ?_
      refine w_t (a := 118) (b := 73) (bN_ge_t (a := 8) (b := 8) (by omega) (by omega) (by omega)) rfl rfl ?_
      exact k
  | f + 1, i, z, hi, hz => by
    cases z with
    | true =>
      have ih := lp_285b hb hR k f (i + 1) true (by omega) (by rw [← hz, Bool.true_or, Bool.true_or])
      refine w_p (pc1 := 68) rfl rfl ?_
      refine w_p (pc1 := 70) (st1 := .int 8 :: _) rfl rfl ?_
      refine w_f (a := 118) (b := 73) (bN_ge_f (a := i) (b := 8) (by omega) (by omega) (by omega)) rfl rfl ?_
      refine w_p (pc1 := 74) rfl rfl ?_
      refine w_t (a := 106) (b := 77) rfl rfl rfl ?_
      refine w_p (pc1 := 107) (st1 := .int 1 :: _) rfl rfl ?_
      refine w_p (pc1 := 111) rfl rfl ?_
      refine w_p (pc1 := 112) (al1 := [(2, .int 1), (3, .int (nI (i))), (0, .ref 176), (1, .int (nI (b)))]) rfl rfl ?_
      refine w_iinc (pc1 := 115) (u := nI (i)) (z := nI (i + 1)) (al1 := [(3, .int (nI (i + 1))), (2, .int 1), (0, .ref 176), (1, .int (nI (b)))]) rfl rfl rfl nK_1 rfl rfl ?_
      refine w_p (pc1 := 67) rfl rfl ?_
      exact ih
    | false =>
      have hq := hR i (by omega)
      have es : ∀ w : Bool, fgG b (tr i) = !w → (w || !allN (fun i => fgG b (tr i)) f (i + 1)) = z0 := fun w hw => by
        rw [← hz, allN, hw]
        cases w <;> rfl
      cases e : tr i with
      | none =>
        rw [e] at hq es
        have hq : C.1 95 i = 0 := hq
        have ih := lp_285b hb hR k f (i + 1) false (by omega) (es false rfl)
        refine w_p (pc1 := 68) rfl rfl ?_
        refine w_p (pc1 := 70) (st1 := .int 8 :: _) rfl rfl ?_
        refine w_f (a := 118) (b := 73) (bN_ge_f (a := i) (b := 8) (by omega) (by omega) (by omega)) rfl rfl ?_
        refine w_p (pc1 := 74) rfl rfl ?_
        refine w_f (a := 106) (b := 77) rfl rfl rfl ?_
        refine w_p (pc1 := 78) rfl rfl ?_
        refine w_m0 (pc1 := 81) rfl rfl (h_gC rfl rfl rfl rfl) rfl ?_
        refine w_p (pc1 := 82) rfl rfl ?_
        refine w_m0 (pc1 := 83) (st1 := .int 0 :: _) rfl rfl (n_ble (e := i) rfl rfl (by decide) rfl (by omega) (hq)) rfl ?_
        refine w_t (a := 110) (b := 86) rfl rfl rfl ?_
        refine w_p (pc1 := 111) (st1 := .int 0 :: _) rfl rfl ?_
        refine w_p (pc1 := 112) (al1 := [(2, .int 0), (3, .int (nI (i))), (0, .ref 176), (1, .int (nI (b)))]) rfl rfl ?_
        refine w_iinc (pc1 := 115) (u := nI (i)) (z := nI (i + 1)) (al1 := [(3, .int (nI (i + 1))), (2, .int 0), (0, .ref 176), (1, .int (nI (b)))]) rfl rfl rfl nK_1 rfl rfl ?_
        refine w_p (pc1 := 67) rfl rfl ?_
        exact ih
      | some u =>
        rw [e] at hq es
        obtain ⟨h1, ⟨h2, h3⟩, h6, h7⟩ := hq
        by_cases c1 : gTb u = b
        · have ih := lp_285b hb hR k f (i + 1) false (by omega) (es false (by show (decide (gTb u = b) || !decide (aTb (gAc u) = some b)) = true; rw [decide_eq_true c1]; rfl))
          refine w_p (pc1 := 68) rfl rfl ?_
          refine w_p (pc1 := 70) (st1 := .int 8 :: _) rfl rfl ?_
          refine w_f (a := 118) (b := 73) (bN_ge_f (a := i) (b := 8) (by omega) (by omega) (by omega)) rfl rfl ?_
          refine w_p (pc1 := 74) rfl rfl ?_
          refine w_f (a := 106) (b := 77) rfl rfl rfl ?_
          refine w_p (pc1 := 78) rfl rfl ?_
          refine w_m0 (pc1 := 81) rfl rfl (h_gC rfl rfl rfl rfl) rfl ?_
          refine w_p (pc1 := 82) rfl rfl ?_
          refine w_m0 (pc1 := 83) (st1 := .int 1 :: _) rfl rfl (n_ble (e := i) rfl rfl (by decide) rfl (by omega) (h1)) rfl ?_
          refine w_f (a := 110) (b := 86) rfl rfl rfl ?_
          refine w_p (pc1 := 87) rfl rfl ?_
          refine w_m0 (pc1 := 90) rfl rfl (h_gC rfl rfl rfl rfl) rfl ?_
          refine w_p (pc1 := 91) rfl rfl ?_
          refine w_m0 (pc1 := 92) (st1 := .int (nI (gTb u)) :: _) rfl rfl (n_ile (e := i) rfl rfl rfl (by omega) (h2)) rfl ?_
          refine w_p (pc1 := 93) rfl rfl ?_
          refine w_t (a := 110) (b := 96) (bN_eq_t (a := gTb u) (b := b) (by omega) (by omega) (by omega)) rfl rfl ?_
          refine w_p (pc1 := 111) (st1 := .int 0 :: _) rfl rfl ?_
          refine w_p (pc1 := 112) (al1 := [(2, .int 0), (3, .int (nI (i))), (0, .ref 176), (1, .int (nI (b)))]) rfl rfl ?_
          refine w_iinc (pc1 := 115) (u := nI (i)) (z := nI (i + 1)) (al1 := [(3, .int (nI (i + 1))), (2, .int 0), (0, .ref 176), (1, .int (nI (b)))]) rfl rfl rfl nK_1 rfl rfl ?_
          refine w_p (pc1 := 67) rfl rfl ?_
          exact ih
        · have ht := tgI_y (fun q hq => h7 q hq) hb
          by_cases c3 : aTb (gAc u) = some b
          · have ih := lp_285b hb hR k f (i + 1) true (by omega) (es true (by show (decide (gTb u = b) || !decide (aTb (gAc u) = some b)) = false; rw [decide_eq_false c1, decide_eq_true c3]; rfl))
            refine w_p (pc1 := 68) rfl rfl ?_
            refine w_p (pc1 := 70) (st1 := .int 8 :: _) rfl rfl ?_
            refine w_f (a := 118) (b := 73) (bN_ge_f (a := i) (b := 8) (by omega) (by omega) (by omega)) rfl rfl ?_
            refine w_p (pc1 := 74) rfl rfl ?_
            refine w_f (a := 106) (b := 77) rfl rfl rfl ?_
            refine w_p (pc1 := 78) rfl rfl ?_
            refine w_m0 (pc1 := 81) rfl rfl (h_gC rfl rfl rfl rfl) rfl ?_
            refine w_p (pc1 := 82) rfl rfl ?_
            refine w_m0 (pc1 := 83) (st1 := .int 1 :: _) rfl rfl (n_ble (e := i) rfl rfl (by decide) rfl (by omega) (h1)) rfl ?_
            refine w_f (a := 110) (b := 86) rfl rfl rfl ?_
            refine w_p (pc1 := 87) rfl rfl ?_
            refine w_m0 (pc1 := 90) rfl rfl (h_gC rfl rfl rfl rfl) rfl ?_
            refine w_p (pc1 := 91) rfl rfl ?_
            refine w_m0 (pc1 := 92) (st1 := .int (nI (gTb u)) :: _) rfl rfl (n_ile (e := i) rfl rfl rfl (by omega) (h2)) rfl ?_
            refine w_p (pc1 := 93) rfl rfl ?_
            refine w_f (a := 110) (b := 96) (bN_eq_f (a := gTb u) (b := b) (by omega) (by omega) (by omega)) rfl rfl ?_
            refine w_p (pc1 := 97) rfl rfl ?_
            refine w_m0 (pc1 := 100) rfl rfl (h_gC rfl rfl rfl rfl) rfl ?_
            refine w_p (pc1 := 101) rfl rfl ?_
            refine w_m0 (pc1 := 102) (st1 := .int (tgI (aTb (gAc u))) :: _) rfl rfl (n_ile (e := i) rfl rfl rfl (by omega) (h6)) rfl ?_
            refine w_p (pc1 := 103) rfl rfl ?_
            refine w_f (a := 110) (b := 106) (cb_ne_f (by exact ht.mpr c3)) rfl rfl ?_
            refine w_p (pc1 := 107) (st1 := .int 1 :: _) rfl rfl ?_
            refine w_p (pc1 := 111) rfl rfl ?_
            refine w_p (pc1 := 112) (al1 := [(2, .int 1), (3, .int (nI (i))), (0, .ref 176), (1, .int (nI (b)))]) rfl rfl ?_
            refine w_iinc (pc1 := 115) (u := nI (i)) (z := nI (i + 1)) (al1 := [(3, .int (nI (i + 1))), (2, .int 1), (0, .ref 176), (1, .int (nI (b)))]) rfl rfl rfl nK_1 rfl rfl ?_
            refine w_p (pc1 := 67) rfl rfl ?_
            exact ih
          · have ih := lp_285b hb hR k f (i + 1) false (by omega) (es false (by show (decide (gTb u = b) || !decide (aTb (gAc u) = some b)) = true; rw [decide_eq_false c1, decide_eq_false c3]; rfl))
            refine w_p (pc1 := 68) rfl rfl ?_
            refine w_p (pc1 := 70) (st1 := .int 8 :: _) rfl rfl ?_
            refine w_f (a := 118) (b := 73) (bN_ge_f (a := i) (b := 8) (by omega) (by omega) (by omega)) rfl rfl ?_
            refine w_p (pc1 := 74) rfl rfl ?_
            refine w_f (a := 106) (b := 77) rfl rfl rfl ?_
            refine w_p (pc1 := 78) rfl rfl ?_
            refine w_m0 (pc1 := 81) rfl rfl (h_gC rfl rfl rfl rfl) rfl ?_
            refine w_p (pc1 := 82) rfl rfl ?_
            refine w_m0 (pc1 := 83) (st1 := .int 1 :: _) rfl rfl (n_ble (e := i) rfl rfl (by decide) rfl (by omega) (h1)) rfl ?_
            refine w_f (a := 110) (b := 86) rfl rfl rfl ?_
            refine w_p (pc1 := 87) rfl rfl ?_
            refine w_m0 (pc1 := 90) rfl rfl (h_gC rfl rfl rfl rfl) rfl ?_
            refine w_p (pc1 := 91) rfl rfl ?_
            refine w_m0 (pc1 := 92) (st1 := .int (nI (gTb u)) :: _) rfl rfl (n_ile (e := i) rfl rfl rfl (by omega) (h2)) rfl ?_
            refine w_p (pc1 := 93) rfl rfl ?_
            refine w_f (a := 110) (b := 96) (bN_eq_f (a := gTb u) (b := b) (by omega) (by omega) (by omega)) rfl rfl ?_
            refine w_p (pc1 := 97) rfl rfl ?_
            refine w_m0 (pc1 := 100) rfl rfl (h_gC rfl rfl rfl rfl) rfl ?_
            refine w_p (pc1 := 101) rfl rfl ?_
            refine w_m0 (pc1 := 102) (st1 := .int (tgI (aTb (gAc u))) :: _) rfl rfl (n_ile (e := i) rfl rfl rfl (by omega) (h6)) rfl ?_
            refine w_p (pc1 := 103) rfl rfl ?_
            refine w_t (a := 110) (b := 106) (cb_ne_t (by exact fun x => c3 (ht.mp x))) rfl rfl ?_
            refine w_p (pc1 := 111) (st1 := .int 0 :: _) rfl rfl ?_
            refine w_p (pc1 := 112) (al1 := [(2, .int 0), (3, .int (nI (i))), (0, .ref 176), (1, .int (nI (b)))]) rfl rfl ?_
            refine w_iinc (pc1 := 115) (u := nI (i)) (z := nI (i + 1)) (al1 := [(3, .int (nI (i + 1))), (2, .int 0), (0, .ref 176), (1, .int (nI (b)))]) rfl rfl rfl nK_1 rfl rfl ?_
            refine w_p (pc1 := 67) rfl rfl ?_
            exact ih
end DRN
