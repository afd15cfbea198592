
/-! ONE SIDE: who breaks a rule, where there is none -/
section BRP
variable {L : Nat} {xs : Nat → Int32} {B : Nat → Nat} {n m : Nat} {C C' C0 C1 : co_T} {t t0 t1 : ab_H} {d sl sl0 sl1 i i0 i1 j b e ti k k0 kc ks w c : Nat} {sc : sc_T} {row : Option Nat} {tg : Option (Nat × Nat)} {nl : Option Nat} {kd0 tb0 : Int32} {P : Option Value → ab_H → Nat → Prop} {X : Nat → ab_H → Nat → Prop} {cs : List Nat} {ss : List (Option (List op_T))} {E : fe_T} {tr : Nat → Option tr_T} {x : Int32}
set_option maxRecDepth 100000 in
theorem m_184n (w : Wd L xs (d + 5) y_96 (0, [(0, .ref 106), (1, .int x)], [], MH C t, 0) (Rt (some .null) (MH C t) 0) nX) : Wd L xs (d + 6) y_184 (0, [(0, .ref 100), (1, .int x)], [], MH C t, sl) (fun _ _ _ => False) (Xk 14 C t sl) := by
  refine w_p (pc1 := 1) rfl rfl ?_
  refine w_m0 (pc1 := 4) rfl rfl (h_gC rfl rfl rfl rfl) rfl ?_
  refine w_p (pc1 := 5) rfl rfl ?_
  refine w_je (pc1 := 8) (vs := [.ref 106, .int (x)]) (rest := []) (st1 := [.null]) (w) rfl rfl rfl (fun _ _ => rfl) rfl (by exact cl_v my_96 rfl rfl rfl (Nat.le_of_ble_eq_true rfl) rfl (MH_obj rfl rfl) rfl (by decide) rfl rfl) (by rfl) (Nat.le_of_ble_eq_true rfl) (Nat.le_of_ble_eq_true rfl) rfl (by rfl) ?_
  refine w_p (pc1 := 9) (al1 := [(2, .null), (0, .ref 100), (1, .int (x))]) rfl rfl ?_
  refine w_p (pc1 := 10) rfl rfl ?_
  refine w_f (a := 23) (b := 13) rfl rfl rfl ?_
  refine w_x (ci := 14) rfl rfl rfl (fun _ _ => rfl) rfl rfl (fun fr lo h1 h2 => cx_ok h1 h2 rfl) (by exact ch_thr (by decide) rfl) ?_
  exact Xk_i
end BRP
