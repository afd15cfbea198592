
/-! ONE SIDE: undo; triggers come and go -/
section UND
variable {L : Nat} {xs : Nat → Int32} {B : Nat → Nat} {n m : Nat} {C C' C0 C1 : co_T} {t t0 t1 : ab_H} {d sl sl0 sl1 i i0 i1 j b e ti k k0 kc ks w c : Nat} {sc : sc_T} {row : Option Nat} {tg : Option (Nat × Nat)} {nl : Option Nat} {kd0 tb0 : Int32} {P : Option Value → ab_H → Nat → Prop} {X : Nat → ab_H → Nat → Prop} {cs : List Nat} {ss : List (Option (List op_T))} {E : fe_T} {tr : Nat → Option tr_T}
set_option maxRecDepth 100000 in
theorem m_97n (h : C.1 20 10 = -1) : Wd L xs (d + 2) y_97 (0, [(0, .ref 120)], [], MH C t, sl) (Rt none (MH C t) sl) nX := by
  refine w_p (pc1 := 1) rfl rfl ?_
  refine w_m0 (pc1 := 4) (st1 := .int (-1) :: _) rfl rfl (h_gIe (j := 10) rfl rfl rfl rfl rfl (h)) rfl ?_
  refine w_p (pc1 := 5) (st1 := .int (-1) :: _) rfl rfl ?_
  refine w_t (a := 19) (b := 8) rfl rfl rfl ?_
  refine w_r rfl rfl rfl (fun _ _ => rfl) rfl ?_
  exact ⟨rfl, rfl, rfl⟩
set_option maxRecDepth 100000 in
theorem m_97y {tbo tbg : Nat → Option Nat} (h : C.1 20 10 = nI b) (hb : b < 6) (hT : isT C b = true) (hS : SLt C t 11 0 24 tbo) (hG : SLg C t 12 0 8 tbg) : Wd L xs (d + 2) y_97 (0, [(0, .ref 120)], [], MH C t, sl) (fun v h q => none = v ∧ (∃ C1 C2, drS (dpC C b) C1 11 0 24 b tbo ∧ drS C1 C2 12 0 8 b tbg ∧ MH C2 t = h) ∧ sl = q) nX := by
  refine w_p (pc1 := 1) rfl rfl ?_
  refine w_m0 (pc1 := 4) (st1 := .int (nI (b)) :: _) rfl rfl (h_gIe (j := 10) rfl rfl rfl rfl rfl (h)) rfl ?_
  refine w_p (pc1 := 5) (st1 := .int (-1) :: _) rfl rfl ?_
  refine w_f (a := 19) (b := 8) (cb_eq_f (by exact nK_m1 (by omega))) rfl rfl ?_
  refine w_p (pc1 := 9) rfl rfl ?_
  refine w_m0 (pc1 := 12) rfl rfl (h_gC rfl rfl rfl rfl) rfl ?_
  refine w_p (pc1 := 13) rfl rfl ?_
  refine w_m0 (pc1 := 16) (st1 := .int (nI (b)) :: _) rfl rfl (h_gIe (j := 10) rfl rfl rfl rfl rfl (h)) rfl ?_
  refine w_ji (pc1 := 19) (vs := [.ref 106, .int (nI (b))]) (rest := []) (m_98 (d := d) (sl := 0) hb hT hS hG) rfl rfl rfl (fun _ _ => rfl) rfl (by exact cl_v my_98 rfl rfl rfl (Nat.le_of_ble_eq_true rfl) rfl (MH_obj rfl rfl) rfl (by decide) rfl rfl) (by rfl) (Nat.le_of_ble_eq_true rfl) (Nat.le_of_ble_eq_true rfl) rfl (fun v h q hq => ?_) (fun _ _ _ e => e.elim)
  obtain ⟨rfl, ⟨C1, C2, D1, D2, rfl⟩, rfl⟩ := hq
  refine w_r rfl rfl rfl (fun _ _ => rfl) rfl ?_
  refine ⟨rfl, ⟨C1, C2, D1, D2, ?_⟩, rfl⟩
  with_reducible rfl
set_option maxRecDepth 100000 in
theorem m_103 {s : Nat} {fs : List Value} (hs : s < 8) (h : t[k]? = some (.inr (10, fs))) : Wd L xs d y_103 (0, [(0, .ref 106), (1, .int (nI s)), (2, .ref (241 + k))], [], MH C t, sl) (Rt none (MH (sQ C 12 s (some (241 + k))) t) sl) nX := by
  refine w_p (pc1 := 1) rfl rfl ?_
  refine w_f (a := 17) (b := 4) (bN_lt_f (a := s) (b := 0) (by omega) (by omega) (by omega)) rfl rfl ?_
  refine w_p (pc1 := 5) rfl rfl ?_
  refine w_p (pc1 := 7) (st1 := .int 8 :: _) rfl rfl ?_
  refine w_f (a := 17) (b := 10) (bN_ge_f (a := s) (b := 8) (by omega) (by omega) (by omega)) rfl rfl ?_
  refine w_p (pc1 := 11) rfl rfl ?_
  refine w_m0 (pc1 := 14) rfl rfl (h_gC rfl rfl rfl rfl) rfl ?_
  refine w_p (pc1 := 15) rfl rfl ?_
  refine w_p (pc1 := 16) rfl rfl ?_
  refine w_m0 (pc1 := 17) rfl rfl (x_asF (k := 12) (e := s) rfl rfl h rfl (by omega) (by omega)) rfl ?_
  refine w_r rfl rfl rfl (fun _ _ => rfl) rfl ?_
  exact ⟨rfl, rfl, rfl⟩
set_option maxRecDepth 100000 in
theorem m_104 {s : Nat} (hs : s < 8) : Wd L xs d y_104 (0, [(0, .ref 106), (1, .int (nI s))], [], MH C t, sl) (Rt none (MH (sQ C 12 s none) t) sl) nX := by
  refine w_p (pc1 := 1) rfl rfl ?_
  refine w_f (a := 17) (b := 4) (bN_lt_f (a := s) (b := 0) (by omega) (by omega) (by omega)) rfl rfl ?_
  refine w_p (pc1 := 5) rfl rfl ?_
  refine w_p (pc1 := 7) (st1 := .int 8 :: _) rfl rfl ?_
  refine w_f (a := 17) (b := 10) (bN_ge_f (a := s) (b := 8) (by omega) (by omega) (by omega)) rfl rfl ?_
  refine w_p (pc1 := 11) rfl rfl ?_
  refine w_m0 (pc1 := 14) rfl rfl (h_gC rfl rfl rfl rfl) rfl ?_
  refine w_p (pc1 := 15) rfl rfl ?_
  refine w_p (pc1 := 16) rfl rfl ?_
  refine w_m0 (pc1 := 17) rfl rfl (x_asFn (k := 12) (e := s) rfl rfl (by decide) (by omega) (by omega)) rfl ?_
  refine w_r rfl rfl rfl (fun _ _ => rfl) rfl ?_
  exact ⟨rfl, rfl, rfl⟩
/-! may table b go -/
def fgU (b : Nat) : Option ru_T → Bool
  | none => true
  | some u => decide (rTb u = b) || !decide (rTg u = some b)
def fgG (b : Nat) : Option tr_T → Bool
  | none => true
  | some g => decide (gTb g = b) || !decide (aTb (gAc g) = some b)
def allN (f : Nat → Bool) : Nat → Nat → Bool
  | 0, _ => true
  | n + 1, k => f k && allN f n (k + 1)
end UND
