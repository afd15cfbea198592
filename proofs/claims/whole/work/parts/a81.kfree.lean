
/-! ONE SIDE: may a table go -/
section FRG
variable {L : Nat} {xs : Nat → Int32} {B : Nat → Nat} {n m : Nat} {C C' C0 C1 : co_T} {t t0 t1 : ab_H} {d sl sl0 sl1 i i0 i1 j b e ti k k0 kc ks w c : Nat} {sc : sc_T} {row : Option Nat} {tg : Option (Nat × Nat)} {nl : Option Nat} {kd0 tb0 : Int32} {P : Option Value → ab_H → Nat → Prop} {X : Nat → ab_H → Nat → Prop} {cs : List Nat} {ss : List (Option (List op_T))} {E : fe_T} {tr : Nat → Option tr_T} {ru : Nat → Option ru_T} {rest : Bool}
set_option maxRecDepth 100000 in
theorem tgI_y {x : Option Nat} (hx : ∀ q, x = some q → q < 6) (hb : b < 6) : tgI x = nI b ↔ x = some b := by
  cases x with
  | none => exact ⟨fun h => absurd h.symm (nK_m1 (by omega)), fun h => by cases h⟩
  | some q =>
    have := hx q rfl
    exact ⟨fun h => by rw [(nK_inj (by omega) (by omega)).mp h], fun h => by cases h; rfl⟩
set_option maxRecDepth 100000 in
theorem lp_102u (hR : RLK C t ru) (ok : ∀ i u, ru i = some u → rTb u < 6 ∧ ∀ q, rTg u = some q → q < 6) (hb : b < 6) (hW : Wd L xs d y_102 (51, [(2, .int (nI 24)), (0, .ref 106), (1, .int (nI b))], [], MH C t, sl) (Rt (some (.int (ck rest))) (MH C t) sl) nX) : ∀ (f p : Nat), p + f = 24 → Wd L xs d y_102 (2, [(2, .int (nI p)), (0, .ref 106), (1, .int (nI b))], [], MH C t, sl) (Rt (some (.int (ck (allN (fun i => fgU b (ru i)) f p && rest)))) (MH C t) sl) nX
  | 0, p, hp => by
    obtain rfl : p = 24 := by omega
    rw [allN, Bool.true_and]
    refine w_p (pc1 := 3) rfl rfl ?_
    refine w_p (pc1 := 5) (st1 := .int 24 :: _) rfl rfl ?_
    refine w_t (a := 51) (b := 8) (bN_ge_t (a := 24) (b := 24) (by omega) (by omega) (by omega)) rfl rfl ?_
    exact hW
  | f + 1, p, hp => by
    have hq := hR p (by omega)
    have ih := lp_102u hR ok hb hW f (p + 1) (by omega)
    rw [allN]
    cases e : ru p with
    | none =>
      rw [e] at hq
      have hq : C.2.2 11 p = none := hq
      rw [show fgU b none = true from rfl, Bool.true_and]
      refine w_p (pc1 := 3) rfl rfl ?_
      refine w_p (pc1 := 5) (st1 := .int 24 :: _) rfl rfl ?_
      refine w_f (a := 51) (b := 8) (bN_ge_f (a := p) (b := 24) (by omega) (by omega) (by omega)) rfl rfl ?_
      refine w_p (pc1 := 9) rfl rfl ?_
      refine w_m0 (pc1 := 12) rfl rfl (h_gC rfl rfl rfl rfl) rfl ?_
      refine w_p (pc1 := 13) rfl rfl ?_
      refine w_m0 (pc1 := 14) (st1 := .null :: _) rfl rfl (n_aln (e := p) rfl rfl (by decide) rfl (by omega) (hq)) rfl ?_
      refine w_t (a := 45) (b := 17) rfl rfl rfl ?_
      refine w_iinc (pc1 := 48) (u := nI (p)) (z := nI (p + 1)) (al1 := [(2, .int (nI (p + 1))), (0, .ref 106), (1, .int (nI (b)))]) rfl rfl rfl nK_1 rfl rfl ?_
      refine w_p (pc1 := 2) rfl rfl ?_
      exact ih
    | some u =>
      rw [e] at hq
      obtain ⟨kk, hq, kc, kt, fc, ft, vc, ⟨g1, _⟩, _⟩ := hq
      obtain ⟨o1, o2⟩ := ok p u e
      by_cases h1 : rTb u = b
      · rw [show fgU b (some u) = true by show (decide (rTb u = b) || _) = true; rw [decide_eq_true h1, Bool.true_or], Bool.true_and]
        refine w_p (pc1 := 3) rfl rfl ?_
        refine w_p (pc1 := 5) (st1 := .int 24 :: _) rfl rfl ?_
        refine w_f (a := 51) (b := 8) (bN_ge_f (a := p) (b := 24) (by omega) (by omega) (by omega)) rfl rfl ?_
        refine w_p (pc1 := 9) rfl rfl ?_
        refine w_m0 (pc1 := 12) rfl rfl (h_gC rfl rfl rfl rfl) rfl ?_
        refine w_p (pc1 := 13) rfl rfl ?_
        refine w_m0 (pc1 := 14) (st1 := .ref (241 + kk) :: _) rfl rfl (n_als (e := p) rfl rfl (by decide) rfl (by omega) (hq)) rfl ?_
        refine w_f (a := 45) (b := 17) rfl rfl rfl ?_
        refine w_p (pc1 := 18) rfl rfl ?_
        refine w_m0 (pc1 := 21) rfl rfl (h_gC rfl rfl rfl rfl) rfl ?_
        refine w_p (pc1 := 22) rfl rfl ?_
        refine w_m0 (pc1 := 23) (st1 := .ref (241 + kk) :: _) rfl rfl (n_als (e := p) rfl rfl (by decide) rfl (by omega) (hq)) rfl ?_
        refine w_m0 (pc1 := 26) (st1 := .int (nI (rTb u)) :: _) rfl rfl (x_gf (k := kk) rfl g1 rfl) rfl ?_
        refine w_p (pc1 := 27) rfl rfl ?_
        refine w_t (a := 45) (b := 30) (bN_eq_t (a := rTb u) (b := b) (by omega) (by omega) (by omega)) rfl rfl ?_
        refine w_iinc (pc1 := 48) (u := nI (p)) (z := nI (p + 1)) (al1 := [(2, .int (nI (p + 1))), (0, .ref 106), (1, .int (nI (b)))]) rfl rfl rfl nK_1 rfl rfl ?_
        refine w_p (pc1 := 2) rfl rfl ?_
        exact ih
      · by_cases h2 : rTg u = some b
        · rw [show fgU b (some u) = false by show (decide (rTb u = b) || !decide (rTg u = some b)) = false; rw [decide_eq_false h1, decide_eq_true h2]; rfl, Bool.false_and, Bool.false_and]
          refine w_p (pc1 := 3) rfl rfl ?_
          refine w_p (pc1 := 5) (st1 := .int 24 :: _) rfl rfl ?_
          refine w_f (a := 51) (b := 8) (bN_ge_f (a := p) (b := 24) (by omega) (by omega) (by omega)) rfl rfl ?_
          refine w_p (pc1 := 9) rfl rfl ?_
          refine w_m0 (pc1 := 12) rfl rfl (h_gC rfl rfl rfl rfl) rfl ?_
          refine w_p (pc1 := 13) rfl rfl ?_
          refine w_m0 (pc1 := 14) (st1 := .ref (241 + kk) :: _) rfl rfl (n_als (e := p) rfl rfl (by decide) rfl (by omega) (hq)) rfl ?_
          refine w_f (a := 45) (b := 17) rfl rfl rfl ?_
          refine w_p (pc1 := 18) rfl rfl ?_
          refine w_m0 (pc1 := 21) rfl rfl (h_gC rfl rfl rfl rfl) rfl ?_
          refine w_p (pc1 := 22) rfl rfl ?_
          refine w_m0 (pc1 := 23) (st1 := .ref (241 + kk) :: _) rfl rfl (n_als (e := p) rfl rfl (by decide) rfl (by omega) (hq)) rfl ?_
          refine w_m0 (pc1 := 26) (st1 := .int (nI (rTb u)) :: _) rfl rfl (x_gf (k := kk) rfl g1 rfl) rfl ?_
          refine w_p (pc1 := 27) rfl rfl ?_
          refine w_f (a := 45) (b := 30) (bN_eq_f (a := rTb u) (b := b) (by omega) (by omega) (by omega)) rfl rfl ?_
          refine w_p (pc1 := 31) rfl rfl ?_
          refine w_m0 (pc1 := 34) rfl rfl (h_gC rfl rfl rfl rfl) rfl ?_
          refine w_p (pc1 := 35) rfl rfl ?_
          refine w_m0 (pc1 := 36) (st1 := .ref (241 + kk) :: _) rfl rfl (n_als (e := p) rfl rfl (by decide) rfl (by omega) (hq)) rfl ?_
          refine w_m0 (pc1 := 39) (st1 := .int (tgI (rTg u)) :: _) rfl rfl (x_gf (k := kk) rfl g1 rfl) rfl ?_
          refine w_p (pc1 := 40) rfl rfl ?_
          refine w_f (a := 45) (b := 43) (cb_ne_f (by exact (tgI_y o2 hb).mpr h2)) rfl rfl ?_
          refine w_p (pc1 := 44) (st1 := .int 0 :: _) rfl rfl ?_
          refine w_r rfl rfl rfl (fun _ _ => rfl) rfl ?_
          exact ⟨rfl, rfl, rfl⟩
        · rw [show fgU b (some u) = true by show (decide (rTb u = b) || !decide (rTg u = some b)) = true; rw [decide_eq_false h1, decide_eq_false h2]; rfl, Bool.true_and]
          refine w_p (pc1 := 3) rfl rfl ?_
          refine w_p (pc1 := 5) (st1 := .int 24 :: _) rfl rfl ?_
          refine w_f (a := 51) (b := 8) (bN_ge_f (a := p) (b := 24) (by omega) (by omega) (by omega)) rfl rfl ?_
          refine w_p (pc1 := 9) rfl rfl ?_
          refine w_m0 (pc1 := 12) rfl rfl (h_gC rfl rfl rfl rfl) rfl ?_
          refine w_p (pc1 := 13) rfl rfl ?_
          refine w_m0 (pc1 := 14) (st1 := .ref (241 + kk) :: _) rfl rfl (n_als (e := p) rfl rfl (by decide) rfl (by omega) (hq)) rfl ?_
          refine w_f (a := 45) (b := 17) rfl rfl rfl ?_
          refine w_p (pc1 := 18) rfl rfl ?_
          refine w_m0 (pc1 := 21) rfl rfl (h_gC rfl rfl rfl rfl) rfl ?_
          refine w_p (pc1 := 22) rfl rfl ?_
          refine w_m0 (pc1 := 23) (st1 := .ref (241 + kk) :: _) rfl rfl (n_als (e := p) rfl rfl (by decide) rfl (by omega) (hq)) rfl ?_
          refine w_m0 (pc1 := 26) (st1 := .int (nI (rTb u)) :: _) rfl rfl (x_gf (k := kk) rfl g1 rfl) rfl ?_
          refine w_p (pc1 := 27) rfl rfl ?_
          refine w_f (a := 45) (b := 30) (bN_eq_f (a := rTb u) (b := b) (by omega) (by omega) (by omega)) rfl rfl ?_
          refine w_p (pc1 := 31) rfl rfl ?_
          refine w_m0 (pc1 := 34) rfl rfl (h_gC rfl rfl rfl rfl) rfl ?_
          refine w_p (pc1 := 35) rfl rfl ?_
          refine w_m0 (pc1 := 36) (st1 := .ref (241 + kk) :: _) rfl rfl (n_als (e := p) rfl rfl (by decide) rfl (by omega) (hq)) rfl ?_
          refine w_m0 (pc1 := 39) (st1 := .int (tgI (rTg u)) :: _) rfl rfl (x_gf (k := kk) rfl g1 rfl) rfl ?_
          refine w_p (pc1 := 40) rfl rfl ?_
          refine w_t (a := 45) (b := 43) (cb_ne_t (by exact fun q => h2 ((tgI_y o2 hb).mp q))) rfl rfl ?_
          refine w_iinc (pc1 := 48) (u := nI (p)) (z := nI (p + 1)) (al1 := [(2, .int (nI (p + 1))), (0, .ref 106), (1, .int (nI (b)))]) rfl rfl rfl nK_1 rfl rfl ?_
          refine w_p (pc1 := 2) rfl rfl ?_
          exact ih
set_option maxRecDepth 100000 in
theorem lp_102g (hG : TGK C t tr) (ok : ∀ i g, tr i = some g → gTb g < 6 ∧ ∀ q, aTb (gAc g) = some q → q < 6) (hb : b < 6) : ∀ (f p : Nat), p + f = 8 → Wd L xs d y_102 (53, [(2, .int (nI p)), (0, .ref 106), (1, .int (nI b))], [], MH C t, sl) (Rt (some (.int (ck (allN (fun i => fgG b (tr i)) f p)))) (MH C t) sl) nX
  | 0, p, hp => by
    refine w_p (pc1 := 54) rfl rfl ?_
    refine w_p (pc1 := 56) (st1 := .int 8 :: _) rfl rfl ?_
    refine w_t (a := 105) (b := 59) (bN_ge_t (a := p) (b := 8) (by omega) (by omega) (by omega)) rfl rfl ?_
    refine w_p (pc1 := 106) (st1 := .int 1 :: _) rfl rfl ?_
    refine w_r rfl rfl rfl (fun _ _ => rfl) rfl ?_
    exact ⟨rfl, rfl, rfl⟩
  | f + 1, p, hp => by
    have hq := hG p (by omega)
    have ih := lp_102g hG ok hb f (p + 1) (by omega)
    rw [allN]
    cases e : tr p with
    | none =>
      rw [e] at hq
      have hq : C.2.2 12 p = none := hq
      rw [show fgG b none = true from rfl, Bool.true_and]
      refine w_p (pc1 := 54) rfl rfl ?_
      refine w_p (pc1 := 56) (st1 := .int 8 :: _) rfl rfl ?_
      refine w_f (a := 105) (b := 59) (bN_ge_f (a := p) (b := 8) (by omega) (by omega) (by omega)) rfl rfl ?_
      refine w_p (pc1 := 60) rfl rfl ?_
      refine w_m0 (pc1 := 63) rfl rfl (h_gC rfl rfl rfl rfl) rfl ?_
      refine w_p (pc1 := 64) rfl rfl ?_
      refine w_m0 (pc1 := 65) (st1 := .null :: _) rfl rfl (n_aln (e := p) rfl rfl (by decide) rfl (by omega) (hq)) rfl ?_
      refine w_t (a := 99) (b := 68) rfl rfl rfl ?_
      refine w_iinc (pc1 := 102) (u := nI (p)) (z := nI (p + 1)) (al1 := [(2, .int (nI (p + 1))), (0, .ref 106), (1, .int (nI (b)))]) rfl rfl rfl nK_1 rfl rfl ?_
      refine w_p (pc1 := 53) rfl rfl ?_
      exact ih
    | some g =>
      rw [e] at hq
      obtain ⟨kk, hq, ka, vw, g1, _, kc, ks, fc, fs, vw', ⟨g2, _⟩⟩ := hq
      obtain ⟨o1, o2⟩ := ok p g e
      by_cases h1 : gTb g = b
      · rw [show fgG b (some g) = true by show (decide (gTb g = b) || _) = true; rw [decide_eq_true h1, Bool.true_or], Bool.true_and]
        refine w_p (pc1 := 54) rfl rfl ?_
        refine w_p (pc1 := 56) (st1 := .int 8 :: _) rfl rfl ?_
        refine w_f (a := 105) (b := 59) (bN_ge_f (a := p) (b := 8) (by omega) (by omega) (by omega)) rfl rfl ?_
        refine w_p (pc1 := 60) rfl rfl ?_
        refine w_m0 (pc1 := 63) rfl rfl (h_gC rfl rfl rfl rfl) rfl ?_
        refine w_p (pc1 := 64) rfl rfl ?_
        refine w_m0 (pc1 := 65) (st1 := .ref (241 + kk) :: _) rfl rfl (n_als (e := p) rfl rfl (by decide) rfl (by omega) (hq)) rfl ?_
        refine w_f (a := 99) (b := 68) rfl rfl rfl ?_
        refine w_p (pc1 := 69) rfl rfl ?_
        refine w_m0 (pc1 := 72) rfl rfl (h_gC rfl rfl rfl rfl) rfl ?_
        refine w_p (pc1 := 73) rfl rfl ?_
        refine w_m0 (pc1 := 74) (st1 := .ref (241 + kk) :: _) rfl rfl (n_als (e := p) rfl rfl (by decide) rfl (by omega) (hq)) rfl ?_
        refine w_m0 (pc1 := 77) (st1 := .int (nI (gTb g)) :: _) rfl rfl (x_gf (k := kk) rfl g1 rfl) rfl ?_
        refine w_p (pc1 := 78) rfl rfl ?_
        refine w_t (a := 99) (b := 81) (bN_eq_t (a := gTb g) (b := b) (by omega) (by omega) (by omega)) rfl rfl ?_
        refine w_iinc (pc1 := 102) (u := nI (p)) (z := nI (p + 1)) (al1 := [(2, .int (nI (p + 1))), (0, .ref 106), (1, .int (nI (b)))]) rfl rfl rfl nK_1 rfl rfl ?_
        refine w_p (pc1 := 53) rfl rfl ?_
        exact ih
      · by_cases h2 : aTb (gAc g) = some b
        · rw [show fgG b (some g) = false by show (decide (gTb g = b) || !decide (aTb (gAc g) = some b)) = false; rw [decide_eq_false h1, decide_eq_true h2]; rfl, Bool.false_and]
          refine w_p (pc1 := 54) rfl rfl ?_
          refine w_p (pc1 := 56) (st1 := .int 8 :: _) rfl rfl ?_
          refine w_f (a := 105) (b := 59) (bN_ge_f (a := p) (b := 8) (by omega) (by omega) (by omega)) rfl rfl ?_
          refine w_p (pc1 := 60) rfl rfl ?_
          refine w_m0 (pc1 := 63) rfl rfl (h_gC rfl rfl rfl rfl) rfl ?_
          refine w_p (pc1 := 64) rfl rfl ?_
          refine w_m0 (pc1 := 65) (st1 := .ref (241 + kk) :: _) rfl rfl (n_als (e := p) rfl rfl (by decide) rfl (by omega) (hq)) rfl ?_
          refine w_f (a := 99) (b := 68) rfl rfl rfl ?_
          refine w_p (pc1 := 69) rfl rfl ?_
          refine w_m0 (pc1 := 72) rfl rfl (h_gC rfl rfl rfl rfl) rfl ?_
          refine w_p (pc1 := 73) rfl rfl ?_
          refine w_m0 (pc1 := 74) (st1 := .ref (241 + kk) :: _) rfl rfl (n_als (e := p) rfl rfl (by decide) rfl (by omega) (hq)) rfl ?_
          refine w_m0 (pc1 := 77) (st1 := .int (nI (gTb g)) :: _) rfl rfl (x_gf (k := kk) rfl g1 rfl) rfl ?_
          refine w_p (pc1 := 78) rfl rfl ?_
          refine w_f (a := 99) (b := 81) (bN_eq_f (a := gTb g) (b := b) (by omega) (by omega) (by omega)) rfl rfl ?_
          refine w_p (pc1 := 82) rfl rfl ?_
          refine w_m0 (pc1 := 85) rfl rfl (h_gC rfl rfl rfl rfl) rfl ?_
          refine w_p (pc1 := 86) rfl rfl ?_
          refine w_m0 (pc1 := 87) (st1 := .ref (241 + kk) :: _) rfl rfl (n_als (e := p) rfl rfl (by decide) rfl (by omega) (hq)) rfl ?_
          refine w_m0 (pc1 := 90) (st1 := .ref (241 + ka) :: _) rfl rfl (x_gf (k := kk) rfl g1 rfl) rfl ?_
          refine w_m0 (pc1 := 93) (st1 := .int (tgI (aTb (gAc g))) :: _) rfl rfl (x_gf (k := ka) rfl g2 rfl) rfl ?_
          refine w_p (pc1 := 94) rfl rfl ?_
          refine w_f (a := 99) (b := 97) (cb_ne_f (by exact (tgI_y o2 hb).mpr h2)) rfl rfl ?_
          refine w_p (pc1 := 98) (st1 := .int 0 :: _) rfl rfl ?_
          refine w_r rfl rfl rfl (fun _ _ => rfl) rfl ?_
          exact ⟨rfl, rfl, rfl⟩
        · rw [show fgG b (some g) = true by show (decide (gTb g = b) || !decide (aTb (gAc g) = some b)) = true; rw [decide_eq_false h1, decide_eq_false h2]; rfl, Bool.true_and]
          refine w_p (pc1 := 54) rfl rfl ?_
          refine w_p (pc1 := 56) (st1 := .int 8 :: _) rfl rfl ?_
          refine w_f (a := 105) (b := 59) (bN_ge_f (a := p) (b := 8) (by omega) (by omega) (by omega)) rfl rfl ?_
          refine w_p (pc1 := 60) rfl rfl ?_
          refine w_m0 (pc1 := 63) rfl rfl (h_gC rfl rfl rfl rfl) rfl ?_
          refine w_p (pc1 := 64) rfl rfl ?_
          refine w_m0 (pc1 := 65) (st1 := .ref (241 + kk) :: _) rfl rfl (n_als (e := p) rfl rfl (by decide) rfl (by omega) (hq)) rfl ?_
          refine w_f (a := 99) (b := 68) rfl rfl rfl ?_
          refine w_p (pc1 := 69) rfl rfl ?_
          refine w_m0 (pc1 := 72) rfl rfl (h_gC rfl rfl rfl rfl) rfl ?_
          refine w_p (pc1 := 73) rfl rfl ?_
          refine w_m0 (pc1 := 74) (st1 := .ref (241 + kk) :: _) rfl rfl (n_als (e := p) rfl rfl (by decide) rfl (by omega) (hq)) rfl ?_
          refine w_m0 (pc1 := 77) (st1 := .int (nI (gTb g)) :: _) rfl rfl (x_gf (k := kk) rfl g1 rfl) rfl ?_
          refine w_p (pc1 := 78) rfl rfl ?_
          refine w_f (a := 99) (b := 81) (bN_eq_f (a := gTb g) (b := b) (by omega) (by omega) (by omega)) rfl rfl ?_
          refine w_p (pc1 := 82) rfl rfl ?_
          refine w_m0 (pc1 := 85) rfl rfl (h_gC rfl rfl rfl rfl) rfl ?_
          refine w_p (pc1 := 86) rfl rfl ?_
          refine w_m0 (pc1 := 87) (st1 := .ref (241 + kk) :: _) rfl rfl (n_als (e := p) rfl rfl (by decide) rfl (by omega) (hq)) rfl ?_
          refine w_m0 (pc1 := 90) (st1 := .ref (241 + ka) :: _) rfl rfl (x_gf (k := kk) rfl g1 rfl) rfl ?_
          refine w_m0 (pc1 := 93) (st1 := .int (tgI (aTb (gAc g))) :: _) rfl rfl (x_gf (k := ka) rfl g2 rfl) rfl ?_
          refine w_p (pc1 := 94) rfl rfl ?_
          refine w_t (a := 99) (b := 97) (cb_ne_t (by exact fun q => h2 ((tgI_y o2 hb).mp q))) rfl rfl ?_
          refine w_iinc (pc1 := 102) (u := nI (p)) (z := nI (p + 1)) (al1 := [(2, .int (nI (p + 1))), (0, .ref 106), (1, .int (nI (b)))]) rfl rfl rfl nK_1 rfl rfl ?_
          refine w_p (pc1 := 53) rfl rfl ?_
          exact ih
set_option maxRecDepth 100000 in
theorem m_102 (hR : RLK C t ru) (ok : ∀ i u, ru i = some u → rTb u < 6 ∧ ∀ q, rTg u = some q → q < 6) (hG : TGK C t tr) (okg : ∀ i g, tr i = some g → gTb g < 6 ∧ ∀ q, aTb (gAc g) = some q → q < 6) (hb : b < 6) : Wd L xs d y_102 (0, [(0, .ref 106), (1, .int (nI b))], [], MH C t, sl) (Rt (some (.int (ck (allN (fun i => fgU b (ru i)) 24 0 && allN (fun i => fgG b (tr i)) 8 0)))) (MH C t) sl) nX := by
  have hg := lp_102g (L := L) (xs := xs) (d := d) (sl := sl) hG okg hb 8 0 rfl
  have hu := lp_102u (L := L) (xs := xs) (d := d) (sl := sl) (rest := allN (fun i => fgG b (tr i)) 8 0) hR ok hb (by
    refine w_p (pc1 := 52) (st1 := .int 0 :: _) rfl rfl ?_
    refine w_p (pc1 := 53) (al1 := [(2, .int 0), (0, .ref 106), (1, .int (nI (b)))]) rfl rfl ?_
    exact hg) 24 0 rfl
  refine w_p (pc1 := 1) (st1 := .int 0 :: _) rfl rfl ?_
  refine w_p (pc1 := 2) (al1 := [(2, .int 0), (0, .ref 106), (1, .int (nI (b)))]) rfl rfl ?_
  exact hu
end FRG
