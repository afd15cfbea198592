
/-! THE OTHER SIDE: may a table go, 2; a mark is set -/
section DRO
variable {L : Nat} {xs : Nat → Int32} {B : Nat → Nat} {n m : Nat} {C C' C0 C1 : co_T} {t t0 t1 : ab_H} {d sl sl0 sl1 i i0 i1 j b e ti k k0 kc ks w c : Nat} {sc : sc_T} {row : Option Nat} {tg : Option (Nat × Nat)} {nl : Option Nat} {kd0 tb0 : Int32} {P : Option Value → ab_H → Nat → Prop} {X : Nat → ab_H → Nat → Prop} {cs : List Nat} {ss : List (Option (List op_T))} {E : fe_T} {tr : Nat → Option tr_T} {ru : Nat → Option ru_T} {nn : Nat}
set_option maxRecDepth 100000 in
theorem m_285 (hb : b < 6) (hR : RfM C ru) (hG : GfM C tr) : Wd L xs d y_285 (0, [(0, .ref 176), (1, .int (nI b))], [], MH C t, sl) (Rt (some (.int (ck (!(allN (fun i => fgU b (ru i)) 24 0 && allN (fun i => fgG b (tr i)) 8 0))))) (MH C t) sl) nX := by
  obtain ⟨z1, e1⟩ : ∃ z, (false || !allN (fun i => fgU b (ru i)) 24 0) = z := ⟨_, rfl⟩
  obtain ⟨z2, e2⟩ : ∃ z, (z1 || !allN (fun i => fgG b (tr i)) 8 0) = z := ⟨_, rfl⟩
  have e3 : (!(allN (fun i => fgU b (ru i)) 24 0 && allN (fun i => fgG b (tr i)) 8 0)) = z2 := by
    rw [← e2, ← e1, Bool.not_and, Bool.false_or]
  rw [e3]
  have k2 : Wd L xs d y_285 (118, [(3, .int (nI 8)), (2, .int (ck z2)), (0, .ref 176), (1, .int (nI b))], [], MH C t, sl) (Rt (some (.int (ck z2))) (MH C t) sl) nX := by
    cases z2 with
    | true =>
      refine w_p (pc1 := 119) rfl rfl ?_
      refine w_r rfl rfl rfl (fun _ _ => rfl) rfl ?_
      exact ⟨rfl, rfl, rfl⟩
    | false =>
      refine w_p (pc1 := 119) rfl rfl ?_
      refine w_r rfl rfl rfl (fun _ _ => rfl) rfl ?_
      exact ⟨rfl, rfl, rfl⟩
  have k1 : Wd L xs d y_285 (65, [(3, .int (nI 24)), (2, .int (ck z1)), (0, .ref 176), (1, .int (nI b))], [], MH C t, sl) (Rt (some (.int (ck z2))) (MH C t) sl) nX := by
    refine w_p (pc1 := 66) (st1 := .int 0 :: _) rfl rfl ?_
    refine w_p (pc1 := 67) (al1 := [(3, .int 0), (2, .int (ck z1)), (0, .ref 176), (1, .int (nI (b)))]) rfl rfl ?_
    exact lp_285b hb hG k2 8 0 z1 rfl e2
  refine w_p (pc1 := 1) (st1 := .int 0 :: _) rfl rfl ?_
  refine w_p (pc1 := 2) (al1 := [(2, .int 0), (0, .ref 176), (1, .int (nI (b)))]) rfl rfl ?_
  refine w_p (pc1 := 3) (st1 := .int 0 :: _) rfl rfl ?_
  refine w_p (pc1 := 4) (al1 := [(3, .int 0), (2, .int 0), (0, .ref 176), (1, .int (nI (b)))]) rfl rfl ?_
  exact lp_285a hb hR k1 24 0 false rfl e1
/-! slots are moved down -/
def shM (C C' : co_T) (j f : Nat) : Prop := (∀ q i, ¬ (119 ≤ q ∧ q ≤ 122) → C'.1 q i = C.1 q i) ∧ (∀ q i, q ≠ 120 → C'.2.1 q i = if q = 123 ∧ j ≤ i ∧ i < j + f then C.2.1 123 (i + 1) else C.2.1 q i) ∧ C'.2.2 = C.2.2 ∧ ∀ s, s < 8 → ∀ wd rs, RWs C 119 (240 * (if 2 + j ≤ s ∧ s < 2 + j + f then s + 1 else s)) (1440 * (if 2 + j ≤ s ∧ s < 2 + j + f then s + 1 else s)) (6 * (if 2 + j ≤ s ∧ s < 2 + j + f then s + 1 else s)) wd rs → RWs C' 119 (240 * s) (1440 * s) (6 * s) wd rs
set_option maxRecDepth 100000 in
theorem shM_0 : shM C C j 0 := ⟨fun _ _ _ => rfl, fun q i _ => (if_neg (by omega)).symm, rfl, fun s _ wd rs h => by rw [if_neg (by omega)] at h; exact h⟩
end DRO
