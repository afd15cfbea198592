
/-! ONE SIDE: who breaks a rule -/
section BRO
variable {L : Nat} {xs : Nat → Int32} {B : Nat → Nat} {n m : Nat} {C C' C0 C1 : co_T} {t t0 t1 : ab_H} {d sl sl0 sl1 i i0 i1 j b e ti k k0 kc ks w c : Nat} {sc : sc_T} {row : Option Nat} {tg : Option (Nat × Nat)} {nl : Option Nat} {kd0 tb0 : Int32} {P : Option Value → ab_H → Nat → Prop} {X : Nat → ab_H → Nat → Prop} {cs : List Nat} {ss : List (Option (List op_T))} {E : fe_T} {tr : Nat → Option tr_T} {Pc : Option Value → ab_H → Nat → Prop} {fs : List Value}
set_option maxRecDepth 100000 in
theorem m_184s (hi : i < 24) (h : C.2.2 11 i = some (241 + k)) (ht : t[k]? = some (.inr (7, fs))) (w : Wd L xs d y_146 (0, [(0, .ref (241 + k)), (1, .ref 113)], [], MH C t, 0) Pc nX) (hP : ∀ v h q, Pc v h q → ∃ x, some (.int x) = v ∧ P v h (sl + q)) : Wd L xs (d + 1) y_184 (0, [(0, .ref 100), (1, .int (nI i))], [], MH C t, sl) P nX := by
  refine w_p (pc1 := 1) rfl rfl ?_
  refine w_m0 (pc1 := 4) rfl rfl (h_gC rfl rfl rfl rfl) rfl ?_
  refine w_p (pc1 := 5) rfl rfl ?_
  refine w_je (pc1 := 8) (vs := [.ref 106, .int (nI (i))]) (rest := []) (st1 := [.ref (241 + k)]) (m_96_s (d := d) (sl := 0) hi h) rfl rfl rfl (fun _ _ => rfl) rfl (by exact cl_v my_96 rfl rfl rfl (Nat.le_of_ble_eq_true rfl) rfl (MH_obj rfl rfl) rfl (by decide) rfl rfl) (by rfl) (Nat.le_of_ble_eq_true rfl) (Nat.le_of_ble_eq_true rfl) rfl (by rfl) ?_
  refine w_p (pc1 := 9) (al1 := [(2, .ref (241 + k)), (0, .ref 100), (1, .int (nI (i)))]) rfl rfl ?_
  refine w_p (pc1 := 10) rfl rfl ?_
  refine w_t (a := 23) (b := 13) rfl rfl rfl ?_
  refine w_p (pc1 := 24) rfl rfl ?_
  refine w_p (pc1 := 25) rfl rfl ?_
  refine w_m0 (pc1 := 28) rfl rfl (h_gC rfl rfl rfl rfl) rfl ?_
  refine w_m0 (pc1 := 31) rfl rfl (h_gC rfl rfl rfl rfl) rfl ?_
  refine w_ji (pc1 := 34) (vs := [.ref (241 + k), .ref 113]) (rest := []) (w) rfl rfl rfl (fun _ _ => rfl) rfl (by exact cl_v my_146 rfl rfl rfl (Nat.le_of_ble_eq_true rfl) rfl (x_obj ht) rfl (by decide) rfl rfl) (by rfl) (Nat.le_of_ble_eq_true rfl) (Nat.le_of_ble_eq_true rfl) rfl (fun v h q hq => ?_) (fun _ _ _ e => e.elim)
  obtain ⟨x, rfl, hq2⟩ := hP _ _ _ hq
  refine w_r rfl rfl rfl (fun _ _ => rfl) cr_int ?_
  exact hq2
end BRO
