
/-! ONE SIDE: rules that may wait; a transaction ends -/
section WTI
variable {L : Nat} {xs : Nat → Int32} {B : Nat → Nat} {n m : Nat} {C C' C0 C1 : co_T} {t t0 t1 : ab_H} {d sl sl0 sl1 i i0 i1 j b e ti k k0 kc ks w c : Nat} {sc : sc_T} {row : Option Nat} {tg : Option (Nat × Nat)} {nl : Option Nat} {kd0 tb0 : Int32} {P : Option Value → ab_H → Nat → Prop} {X : Nat → ab_H → Nat → Prop} {cs : List Nat} {ss : List (Option (List op_T))} {E : fe_T} {tr : Nat → Option tr_T} {ru : Nat → Option ru_T}
abbrev wt1 (p : Nat) : Int32 := 1 <<< (nI p &&& 31)
def wtI (ru : Nat → Option ru_T) : Nat → Nat → Int32 → Int32
  | 0, _, a => a
  | f + 1, p, a => wtI ru f (p + 1) (a ||| (match ru p with
    | none => 0
    | some u => bif rLt u then wt1 p else 0))
set_option maxRecDepth 100000 in
theorem lp_150 (hR : RLK C t ru) : ∀ (f p : Nat) (a : Int32), p + f = 24 → Wd L xs d y_150 (4, [(2, .int (nI p)), (1, .int a), (0, .ref 106)], [], MH C t, sl) (Rt (some (.int (wtI ru f p a))) (MH C t) sl) nX
  | 0, p, a, hp => by
    refine w_p (pc1 := 5) rfl rfl ?_
    refine w_p (pc1 := 7) (st1 := .int 24 :: _) rfl rfl ?_
    refine w_t (a := 47) (b := 10) (bN_ge_t (a := p) (b := 24) (by omega) (by omega) (by omega)) rfl rfl ?_
    refine w_p (pc1 := 48) rfl rfl ?_
    refine w_r rfl rfl rfl (fun _ _ => rfl) cr_int ?_
    exact ⟨rfl, rfl, rfl⟩
  | f + 1, p, a, hp => by
    have hq := hR p (by omega)
    cases e : ru p with
    | none =>
      rw [e] at hq
      have hq : C.2.2 11 p = none := hq
      have ih := lp_150 hR f (p + 1) (a ||| 0) (by omega)
      have ew : wtI ru (f + 1) p a = wtI ru f (p + 1) (a ||| 0) := by rw [wtI, e]
      rw [ew]
      refine w_p (pc1 := 5) rfl rfl ?_
      refine w_p (pc1 := 7) (st1 := .int 24 :: _) rfl rfl ?_
      refine w_f (a := 47) (b := 10) (bN_ge_f (a := p) (b := 24) (by omega) (by omega) (by omega)) rfl rfl ?_
      refine w_p (pc1 := 11) rfl rfl ?_
      refine w_p (pc1 := 12) rfl rfl ?_
      refine w_m0 (pc1 := 15) rfl rfl (h_gC rfl rfl rfl rfl) rfl ?_
      refine w_p (pc1 := 16) rfl rfl ?_
      refine w_m0 (pc1 := 17) (st1 := .null :: _) rfl rfl (n_aln (e := p) rfl rfl (by decide) rfl (by omega) (hq)) rfl ?_
      refine w_t (a := 38) (b := 20) rfl rfl rfl ?_
      refine w_p (pc1 := 39) (st1 := .int 0 :: _) rfl rfl ?_
      refine w_p (pc1 := 40) rfl rfl ?_
      refine w_p (pc1 := 41) (al1 := [(1, _), (2, .int (nI (p))), (0, .ref 106)]) rfl rfl ?_
      refine w_iinc (pc1 := 44) (u := nI (p)) (z := nI (p + 1)) (al1 := [(2, .int (nI (p + 1))), (1, _), (0, .ref 106)]) rfl rfl rfl nK_1 rfl rfl ?_
      refine w_p (pc1 := 4) rfl rfl ?_
      exact ih
    | some u =>
      rw [e] at hq
      obtain ⟨kk, hq, kc, kt, fc, ft, vc, ⟨g1, _⟩, _⟩ := hq
      cases hb : rLt u with
      | false =>
        have ih := lp_150 hR f (p + 1) (a ||| 0) (by omega)
        have ew : wtI ru (f + 1) p a = wtI ru f (p + 1) (a ||| 0) := by
          rw [wtI, e]
          simp only
          rw [hb]
          rfl
        rw [ew]
        refine w_p (pc1 := 5) rfl rfl ?_
        refine w_p (pc1 := 7) (st1 := .int 24 :: _) rfl rfl ?_
        refine w_f (a := 47) (b := 10) (bN_ge_f (a := p) (b := 24) (by omega) (by omega) (by omega)) rfl rfl ?_
        refine w_p (pc1 := 11) rfl rfl ?_
        refine w_p (pc1 := 12) rfl rfl ?_
        refine w_m0 (pc1 := 15) rfl rfl (h_gC rfl rfl rfl rfl) rfl ?_
        refine w_p (pc1 := 16) rfl rfl ?_
        refine w_m0 (pc1 := 17) (st1 := .ref (241 + kk) :: _) rfl rfl (n_als (e := p) rfl rfl (by decide) rfl (by omega) (hq)) rfl ?_
        refine w_f (a := 38) (b := 20) rfl rfl rfl ?_
        refine w_p (pc1 := 21) rfl rfl ?_
        refine w_m0 (pc1 := 24) rfl rfl (h_gC rfl rfl rfl rfl) rfl ?_
        refine w_p (pc1 := 25) rfl rfl ?_
        refine w_m0 (pc1 := 26) (st1 := .ref (241 + kk) :: _) rfl rfl (n_als (e := p) rfl rfl (by decide) rfl (by omega) (hq)) rfl ?_
        refine w_m0 (pc1 := 29) (st1 := .int (ck (rLt u)) :: _) rfl rfl (x_gf (k := kk) rfl g1 rfl) rfl ?_
        refine w_t (a := 38) (b := 32) (cb_eq_t (by rw [hb]; rfl)) rfl rfl ?_
        refine w_p (pc1 := 39) (st1 := .int 0 :: _) rfl rfl ?_
        refine w_p (pc1 := 40) rfl rfl ?_
        refine w_p (pc1 := 41) (al1 := [(1, _), (2, .int (nI (p))), (0, .ref 106)]) rfl rfl ?_
        refine w_iinc (pc1 := 44) (u := nI (p)) (z := nI (p + 1)) (al1 := [(2, .int (nI (p + 1))), (1, _), (0, .ref 106)]) rfl rfl rfl nK_1 rfl rfl ?_
        refine w_p (pc1 := 4) rfl rfl ?_
        exact ih
      | true =>
        have ih := lp_150 hR f (p + 1) (a ||| wt1 p) (by omega)
        have ew : wtI ru (f + 1) p a = wtI ru f (p + 1) (a ||| wt1 p) := by
          rw [wtI, e]
          simp only
          rw [hb]
          rfl
        rw [ew]
        refine w_p (pc1 := 5) rfl rfl ?_
        refine w_p (pc1 := 7) (st1 := .int 24 :: _) rfl rfl ?_
        refine w_f (a := 47) (b := 10) (bN_ge_f (a := p) (b := 24) (by omega) (by omega) (by omega)) rfl rfl ?_
        refine w_p (pc1 := 11) rfl rfl ?_
        refine w_p (pc1 := 12) rfl rfl ?_
        refine w_m0 (pc1 := 15) rfl rfl (h_gC rfl rfl rfl rfl) rfl ?_
        refine w_p (pc1 := 16) rfl rfl ?_
        refine w_m0 (pc1 := 17) (st1 := .ref (241 + kk) :: _) rfl rfl (n_als (e := p) rfl rfl (by decide) rfl (by omega) (hq)) rfl ?_
        refine w_f (a := 38) (b := 20) rfl rfl rfl ?_
        refine w_p (pc1 := 21) rfl rfl ?_
        refine w_m0 (pc1 := 24) rfl rfl (h_gC rfl rfl rfl rfl) rfl ?_
        refine w_p (pc1 := 25) rfl rfl ?_
        refine w_m0 (pc1 := 26) (st1 := .ref (241 + kk) :: _) rfl rfl (n_als (e := p) rfl rfl (by decide) rfl (by omega) (hq)) rfl ?_
        refine w_m0 (pc1 := 29) (st1 := .int (ck (rLt u)) :: _) rfl rfl (x_gf (k := kk) rfl g1 rfl) rfl ?_
        refine w_f (a := 38) (b := 32) (cb_eq_f (by rw [hb]; decide)) rfl rfl ?_
        refine w_p (pc1 := 33) (st1 := .int 1 :: _) rfl rfl ?_
        refine w_p (pc1 := 34) rfl rfl ?_
        refine w_p (pc1 := 35) rfl rfl ?_
        refine w_p (pc1 := 39) rfl rfl ?_
        refine w_p (pc1 := 40) rfl rfl ?_
        refine w_p (pc1 := 41) (al1 := [(1, _), (2, .int (nI (p))), (0, .ref 106)]) rfl rfl ?_
        refine w_iinc (pc1 := 44) (u := nI (p)) (z := nI (p + 1)) (al1 := [(2, .int (nI (p + 1))), (1, _), (0, .ref 106)]) rfl rfl rfl nK_1 rfl rfl ?_
        refine w_p (pc1 := 4) rfl rfl ?_
        exact ih
set_option maxRecDepth 100000 in
theorem m_150 (hR : RLK C t ru) : Wd L xs d y_150 (0, [(0, .ref 106)], [], MH C t, sl) (Rt (some (.int (wtI ru 24 0 0))) (MH C t) sl) nX := by
  refine w_p (pc1 := 1) (st1 := .int 0 :: _) rfl rfl ?_
  refine w_p (pc1 := 2) (al1 := [(1, .int 0), (0, .ref 106)]) rfl rfl ?_
  refine w_p (pc1 := 3) (st1 := .int 0 :: _) rfl rfl ?_
  refine w_p (pc1 := 4) (al1 := [(2, .int 0), (1, .int 0), (0, .ref 106)]) rfl rfl ?_
  exact lp_150 hR 24 0 0 rfl
set_option maxRecDepth 100000 in
theorem m_153 : Wd L xs d y_153 (0, [(0, .ref 106)], [], MH C t, sl) (Rt none (MH (sI (sI (sI C 6 7 0) 6 8 0) 6 12 0) t) sl) nX := by
  refine w_p (pc1 := 1) rfl rfl ?_
  refine w_p (pc1 := 2) (st1 := .int 0 :: _) rfl rfl ?_
  refine w_m0 (pc1 := 5) rfl rfl (h_pI (j := 7) rfl rfl rfl rfl rfl rfl rfl ⟨rfl, rfl⟩ rfl) rfl ?_
  refine w_p (pc1 := 6) rfl rfl ?_
  refine w_p (pc1 := 7) (st1 := .int 0 :: _) rfl rfl ?_
  refine w_m0 (pc1 := 10) rfl rfl (h_pI (j := 8) rfl rfl rfl rfl rfl rfl rfl ⟨rfl, rfl⟩ rfl) rfl ?_
  refine w_p (pc1 := 11) rfl rfl ?_
  refine w_p (pc1 := 12) (st1 := .int 0 :: _) rfl rfl ?_
  refine w_m0 (pc1 := 15) rfl rfl (h_pI (j := 12) rfl rfl rfl rfl rfl rfl rfl ⟨rfl, rfl⟩ rfl) rfl ?_
  refine w_r rfl rfl rfl (fun _ _ => rfl) rfl ?_
  exact ⟨rfl, rfl, rfl⟩
end WTI
