
/-! ONE SIDE: answers are wiped; a table that isn't there is dropped -/
section FIL
variable {L : Nat} {xs : Nat → Int32} {B : Nat → Nat} {n m : Nat} {C C' C0 C1 : co_T} {t t0 t1 : ab_H} {d sl sl0 sl1 i i0 i1 j b e ti k k0 kc ks w c : Nat} {sc : sc_T} {row : Option Nat} {tg : Option (Nat × Nat)} {nl : Option Nat} {kd0 tb0 : Int32} {P : Option Value → ab_H → Nat → Prop} {X : Nat → ab_H → Nat → Prop} {cs : List Nat} {ss : List (Option (List op_T))} {E : fe_T} {tr : Nat → Option tr_T} {x : Int32}
set_option maxRecDepth 100000 in
theorem lp_161 (k : ∀ C', flU C0 C' 75 8 (fun _ => x) → Wd L xs d y_161 (20, [(2, .int (nI 8)), (3, .int (nI 8)), (0, .ref 175), (1, .int x)], [], MH C' t, sl) P X) : ∀ (f i : Nat) (C : co_T), i + f = 8 → flU C0 C 75 i (fun _ => x) → Wd L xs d y_161 (5, [(2, .int (nI i)), (3, .int (nI 8)), (0, .ref 175), (1, .int x)], [], MH C t, sl) P X
  | 0, i, C, hi, F => by
    obtain rfl : i = 8 := by omega
    refine w_p (pc1 := 6) rfl rfl ?_
    refine w_p (pc1 := 7) rfl rfl ?_
    refine w_t (a := 20) (b := 10) (bN_ge_t (a := 8) (b := 8) (by omega) (by omega) (by omega)) rfl rfl ?_
    exact k C F
  | f + 1, i, C, hi, F => by
    have ih := lp_161 k f (i + 1) (sI C 75 i x) (by omega) (flU_s F)
    refine w_p (pc1 := 6) rfl rfl ?_
    refine w_p (pc1 := 7) rfl rfl ?_
    refine w_f (a := 20) (b := 10) (bN_ge_f (a := i) (b := 8) (by omega) (by omega) (by omega)) rfl rfl ?_
    refine w_p (pc1 := 11) rfl rfl ?_
    refine w_p (pc1 := 12) rfl rfl ?_
    refine w_p (pc1 := 13) rfl rfl ?_
    refine w_m0 (pc1 := 14) rfl rfl (n_is (e := i) rfl rfl rfl (by omega)) rfl ?_
    refine w_iinc (pc1 := 17) (u := nI (i)) (z := nI (i + 1)) (al1 := [(2, .int (nI (i + 1))), (3, .int (nI (8))), (0, .ref 175), (1, .int (x))]) rfl rfl rfl nK_1 rfl rfl ?_
    refine w_p (pc1 := 5) rfl rfl ?_
    exact ih
set_option maxRecDepth 100000 in
theorem m_161 : Wd L xs d y_161 (0, [(0, .ref 175), (1, .int x)], [], MH C t, sl) (fun v h q => none = v ∧ (∃ C', flU C C' 75 8 (fun _ => x) ∧ MH C' t = h) ∧ sl = q) nX := by
  refine w_p (pc1 := 1) (st1 := .int 0 :: _) rfl rfl ?_
  refine w_p (pc1 := 2) (al1 := [(2, .int 0), (0, .ref 175), (1, .int (x))]) rfl rfl ?_
  refine w_p (pc1 := 3) rfl rfl ?_
  refine w_m0 (pc1 := 4) (st1 := .int 8 :: _) rfl rfl (h_lnI rfl rfl (by decide)) rfl ?_
  refine w_p (pc1 := 5) (al1 := [(3, .int 8), (2, .int 0), (0, .ref 175), (1, .int (x))]) rfl rfl ?_
  refine Wd_al (al := [(2, .int 0), (3, .int 8), (0, .ref 175), (1, .int (x))]) (sba_p [1, 0, 2, 3] rfl rfl) ?_
  refine lp_161 (C0 := C) (fun C' F' => ?_) 8 0 _ rfl flU_0
  refine w_r rfl rfl rfl (fun _ _ => rfl) rfl ?_
  exact ⟨rfl, ⟨C', F', rfl⟩, rfl⟩
end FIL
