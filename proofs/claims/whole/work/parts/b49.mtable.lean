
/-! THE OTHER SIDE: table, value -/
section MTA
variable {L : Nat} {xs : Nat → Int32} {B : Nat → Nat} {n m : Nat} {C C' C0 C1 : co_T} {t t0 t1 : ab_H} {d sl sl0 sl1 i i0 i1 j b e ti k k0 kc ks w c : Nat} {sc : sc_T} {row : Option Nat} {tg : Option (Nat × Nat)} {nl : Option Nat} {kd0 tb0 : Int32} {P : Option Value → ab_H → Nat → Prop} {X : Nat → ab_H → Nat → Prop} {cs : List Nat} {ss : List (Option (List op_T))} {E : fe_T} {tr : Nat → Option tr_T} {x r y z : Int32} {a : Int64} {nn : Nat}
set_option maxRecDepth 100000 in
theorem m_290_0 (hb : b < 6) (hf : C.1 78 b = 1) : Wd L xs (d + 1) y_290 (0, [(0, .ref 176), (1, .int (nI b)), (2, .int 0)], [], MH C t, sl) (Rt (some (.long ((C.1 80 b).toInt64))) (MH (sI C 76 0 0) t) sl) nX := by
  refine w_p (pc1 := 1) rfl rfl ?_
  refine w_p (pc1 := 2) rfl rfl ?_
  refine w_p (pc1 := 3) (st1 := .long 0 :: _) rfl rfl ?_
  refine w_m0 (pc1 := 6) (st1 := .long 5 :: _) rfl rfl rfl rfl ?_
  refine w_je (pc1 := 9) (vs := [_, .long 0, .long 5]) (rest := []) (st1 := [.int 1]) (m_189t (d := d) (sl := 0) (isIn_t (x := nI b) (m := 0) (n := 5) rfl rfl (by rw [nK_int (by omega)]; omega) (by rw [nK_int (by omega)]; omega))) rfl rfl rfl (fun _ _ => rfl) rfl (by exact cl_s my_189 rfl rfl rfl (Nat.le_of_ble_eq_true rfl) rfl rfl) (by rfl) (Nat.le_of_ble_eq_true rfl) (Nat.le_of_ble_eq_true rfl) rfl (by rfl) ?_
  refine w_f (a := 25) (b := 12) rfl rfl rfl ?_
  refine w_p (pc1 := 13) rfl rfl ?_
  refine w_m0 (pc1 := 16) rfl rfl (h_gC rfl rfl rfl rfl) rfl ?_
  refine w_p (pc1 := 17) rfl rfl ?_
  refine w_m0 (pc1 := 18) (st1 := .int 1 :: _) rfl rfl (n_ble (e := b) rfl rfl (by decide) rfl (by omega) (hf)) rfl ?_
  refine w_f (a := 25) (b := 21) rfl rfl rfl ?_
  refine w_p (pc1 := 22) (st1 := .int 1 :: _) rfl rfl ?_
  refine w_p (pc1 := 26) rfl rfl ?_
  refine w_p (pc1 := 27) (al1 := [(3, .int 1), (0, .ref 176), (1, .int (nI (b))), (2, .int 0)]) rfl rfl ?_
  refine w_p (pc1 := 28) rfl rfl ?_
  refine w_p (pc1 := 29) (st1 := .long 0 :: _) rfl rfl ?_
  refine w_m0 (pc1 := 32) (st1 := .long 4 :: _) rfl rfl rfl rfl ?_
  refine w_m0 (pc1 := 35) (st1 := .long 9 :: _) rfl rfl rfl rfl ?_
  refine w_je (pc1 := 38) (vs := [.long 0, .long 4, .long 9]) (rest := []) (st1 := [.int 0]) (m_189f (d := d) (sl := 0) (isIn_f (x := 0) (m := 4) (n := 9) rfl rfl (by decide))) rfl rfl rfl (fun _ _ => rfl) rfl (by exact cl_s my_189 rfl rfl rfl (Nat.le_of_ble_eq_true rfl) rfl rfl) (by rfl) (Nat.le_of_ble_eq_true rfl) (Nat.le_of_ble_eq_true rfl) rfl (by rfl) ?_
  refine w_t (a := 57) (b := 41) rfl rfl rfl ?_
  refine w_p (pc1 := 58) (st1 := .int 1 :: _) rfl rfl ?_
  refine w_p (pc1 := 62) rfl rfl ?_
  refine w_p (pc1 := 64) (al1 := [(4, .int 1), (3, .int 1), (0, .ref 176), (1, .int (nI (b))), (2, .int 0)]) rfl rfl ?_
  refine w_p (pc1 := 65) rfl rfl ?_
  refine w_p (pc1 := 66) rfl rfl ?_
  refine w_f (a := 78) (b := 69) rfl rfl rfl ?_
  refine w_p (pc1 := 71) rfl rfl ?_
  refine w_f (a := 78) (b := 74) rfl rfl rfl ?_
  refine w_p (pc1 := 75) (st1 := .int 1 :: _) rfl rfl ?_
  refine w_p (pc1 := 79) rfl rfl ?_
  refine w_p (pc1 := 80) rfl rfl ?_
  refine w_p (pc1 := 81) (st1 := .long 0 :: _) rfl rfl ?_
  refine w_p (pc1 := 82) (st1 := .long 0 :: _) rfl rfl ?_
  refine w_m0 (pc1 := 85) (st1 := .long 9 :: _) rfl rfl rfl rfl ?_
  refine w_je (pc1 := 88) (vs := [.long 0, .long 0, .long 9]) (rest := [.int 1, .ref 176]) (st1 := [.int 1, .int 1, .ref 176]) (m_189t (d := d) (sl := 0) (isIn_t (x := 0) (m := 0) (n := 9) rfl rfl (by decide) (by decide))) rfl rfl rfl (fun _ _ => rfl) rfl (by exact cl_s my_189 rfl rfl rfl (Nat.le_of_ble_eq_true rfl) rfl rfl) (by rfl) (Nat.le_of_ble_eq_true rfl) (Nat.le_of_ble_eq_true rfl) rfl (by rfl) ?_
  refine w_je (pc1 := 91) (vs := [.ref 176, .int 1, .int 1]) (rest := []) (st1 := [.int 1]) (m_190 (d := d) (sl := 0)) rfl rfl rfl (fun _ _ => rfl) rfl (by exact cl_v my_190 rfl rfl rfl (Nat.le_of_ble_eq_true rfl) rfl (MH_obj rfl rfl) rfl (by decide) rfl rfl) (by rfl) (Nat.le_of_ble_eq_true rfl) (Nat.le_of_ble_eq_true rfl) rfl (by rfl) ?_
  refine w_t (a := 96) (b := 94) rfl rfl rfl ?_
  refine w_p (pc1 := 97) rfl rfl ?_
  refine w_f (a := 110) (b := 100) rfl rfl rfl ?_
  refine w_p (pc1 := 101) rfl rfl ?_
  refine w_m0 (pc1 := 104) rfl rfl (h_gC rfl rfl rfl rfl) rfl ?_
  refine w_p (pc1 := 105) rfl rfl ?_
  refine w_m0 (pc1 := 106) rfl rfl (n_il (e := b) rfl rfl rfl (by omega)) rfl ?_
  refine w_p (pc1 := 107) rfl rfl ?_
  refine w_p (pc1 := 167) rfl rfl ?_
  refine w_r rfl rfl rfl (fun _ _ => rfl) rfl ?_
  exact ⟨rfl, rfl, rfl⟩
set_option maxRecDepth 100000 in
theorem m_290_1 (hb : b < 6) (hf : C.1 78 b = 1) : Wd L xs (d + 1) y_290 (0, [(0, .ref 176), (1, .int (nI b)), (2, .int 1)], [], MH C t, sl) (Rt (some (.long ((C.1 117 b).toInt64))) (MH (sI C 76 0 0) t) sl) nX := by
  refine w_p (pc1 := 1) rfl rfl ?_
  refine w_p (pc1 := 2) rfl rfl ?_
  refine w_p (pc1 := 3) (st1 := .long 0 :: _) rfl rfl ?_
  refine w_m0 (pc1 := 6) (st1 := .long 5 :: _) rfl rfl rfl rfl ?_
  refine w_je (pc1 := 9) (vs := [_, .long 0, .long 5]) (rest := []) (st1 := [.int 1]) (m_189t (d := d) (sl := 0) (isIn_t (x := nI b) (m := 0) (n := 5) rfl rfl (by rw [nK_int (by omega)]; omega) (by rw [nK_int (by omega)]; omega))) rfl rfl rfl (fun _ _ => rfl) rfl (by exact cl_s my_189 rfl rfl rfl (Nat.le_of_ble_eq_true rfl) rfl rfl) (by rfl) (Nat.le_of_ble_eq_true rfl) (Nat.le_of_ble_eq_true rfl) rfl (by rfl) ?_
  refine w_f (a := 25) (b := 12) rfl rfl rfl ?_
  refine w_p (pc1 := 13) rfl rfl ?_
  refine w_m0 (pc1 := 16) rfl rfl (h_gC rfl rfl rfl rfl) rfl ?_
  refine w_p (pc1 := 17) rfl rfl ?_
  refine w_m0 (pc1 := 18) (st1 := .int 1 :: _) rfl rfl (n_ble (e := b) rfl rfl (by decide) rfl (by omega) (hf)) rfl ?_
  refine w_f (a := 25) (b := 21) rfl rfl rfl ?_
  refine w_p (pc1 := 22) (st1 := .int 1 :: _) rfl rfl ?_
  refine w_p (pc1 := 26) rfl rfl ?_
  refine w_p (pc1 := 27) (al1 := [(3, .int 1), (0, .ref 176), (1, .int (nI (b))), (2, .int 1)]) rfl rfl ?_
  refine w_p (pc1 := 28) rfl rfl ?_
  refine w_p (pc1 := 29) (st1 := .long 1 :: _) rfl rfl ?_
  refine w_m0 (pc1 := 32) (st1 := .long 4 :: _) rfl rfl rfl rfl ?_
  refine w_m0 (pc1 := 35) (st1 := .long 9 :: _) rfl rfl rfl rfl ?_
  refine w_je (pc1 := 38) (vs := [.long 1, .long 4, .long 9]) (rest := []) (st1 := [.int 0]) (m_189f (d := d) (sl := 0) (isIn_f (x := 1) (m := 4) (n := 9) rfl rfl (by decide))) rfl rfl rfl (fun _ _ => rfl) rfl (by exact cl_s my_189 rfl rfl rfl (Nat.le_of_ble_eq_true rfl) rfl rfl) (by rfl) (Nat.le_of_ble_eq_true rfl) (Nat.le_of_ble_eq_true rfl) rfl (by rfl) ?_
  refine w_t (a := 57) (b := 41) rfl rfl rfl ?_
  refine w_p (pc1 := 58) (st1 := .int 1 :: _) rfl rfl ?_
  refine w_p (pc1 := 62) rfl rfl ?_
  refine w_p (pc1 := 64) (al1 := [(4, .int 1), (3, .int 1), (0, .ref 176), (1, .int (nI (b))), (2, .int 1)]) rfl rfl ?_
  refine w_p (pc1 := 65) rfl rfl ?_
  refine w_p (pc1 := 66) rfl rfl ?_
  refine w_f (a := 78) (b := 69) rfl rfl rfl ?_
  refine w_p (pc1 := 71) rfl rfl ?_
  refine w_f (a := 78) (b := 74) rfl rfl rfl ?_
  refine w_p (pc1 := 75) (st1 := .int 1 :: _) rfl rfl ?_
  refine w_p (pc1 := 79) rfl rfl ?_
  refine w_p (pc1 := 80) rfl rfl ?_
  refine w_p (pc1 := 81) (st1 := .long 1 :: _) rfl rfl ?_
  refine w_p (pc1 := 82) (st1 := .long 0 :: _) rfl rfl ?_
  refine w_m0 (pc1 := 85) (st1 := .long 9 :: _) rfl rfl rfl rfl ?_
  refine w_je (pc1 := 88) (vs := [.long 1, .long 0, .long 9]) (rest := [.int 1, .ref 176]) (st1 := [.int 1, .int 1, .ref 176]) (m_189t (d := d) (sl := 0) (isIn_t (x := 1) (m := 0) (n := 9) rfl rfl (by decide) (by decide))) rfl rfl rfl (fun _ _ => rfl) rfl (by exact cl_s my_189 rfl rfl rfl (Nat.le_of_ble_eq_true rfl) rfl rfl) (by rfl) (Nat.le_of_ble_eq_true rfl) (Nat.le_of_ble_eq_true rfl) rfl (by rfl) ?_
  refine w_je (pc1 := 91) (vs := [.ref 176, .int 1, .int 1]) (rest := []) (st1 := [.int 1]) (m_190 (d := d) (sl := 0)) rfl rfl rfl (fun _ _ => rfl) rfl (by exact cl_v my_190 rfl rfl rfl (Nat.le_of_ble_eq_true rfl) rfl (MH_obj rfl rfl) rfl (by decide) rfl rfl) (by rfl) (Nat.le_of_ble_eq_true rfl) (Nat.le_of_ble_eq_true rfl) rfl (by rfl) ?_
  refine w_t (a := 96) (b := 94) rfl rfl rfl ?_
  refine w_p (pc1 := 97) rfl rfl ?_
  refine w_t (a := 110) (b := 100) rfl rfl rfl ?_
  refine w_p (pc1 := 111) rfl rfl ?_
  refine w_p (pc1 := 112) (st1 := .int 1 :: _) rfl rfl ?_
  refine w_f (a := 125) (b := 115) rfl rfl rfl ?_
  refine w_p (pc1 := 116) rfl rfl ?_
  refine w_m0 (pc1 := 119) rfl rfl (h_gC rfl rfl rfl rfl) rfl ?_
  refine w_p (pc1 := 120) rfl rfl ?_
  refine w_m0 (pc1 := 121) rfl rfl (n_il (e := b) rfl rfl rfl (by omega)) rfl ?_
  refine w_p (pc1 := 122) rfl rfl ?_
  refine w_p (pc1 := 167) rfl rfl ?_
  refine w_r rfl rfl rfl (fun _ _ => rfl) rfl ?_
  exact ⟨rfl, rfl, rfl⟩
set_option maxRecDepth 100000 in
theorem m_290_2 (hb : b < 6) (hf : C.1 78 b = 1) : Wd L xs (d + 1) y_290 (0, [(0, .ref 176), (1, .int (nI b)), (2, .int 2)], [], MH C t, sl) (Rt (some (.long ((C.1 118 b).toInt64))) (MH (sI C 76 0 0) t) sl) nX := by
  refine w_p (pc1 := 1) rfl rfl ?_
  refine w_p (pc1 := 2) rfl rfl ?_
  refine w_p (pc1 := 3) (st1 := .long 0 :: _) rfl rfl ?_
  refine w_m0 (pc1 := 6) (st1 := .long 5 :: _) rfl rfl rfl rfl ?_
  refine w_je (pc1 := 9) (vs := [_, .long 0, .long 5]) (rest := []) (st1 := [.int 1]) (m_189t (d := d) (sl := 0) (isIn_t (x := nI b) (m := 0) (n := 5) rfl rfl (by rw [nK_int (by omega)]; omega) (by rw [nK_int (by omega)]; omega))) rfl rfl rfl (fun _ _ => rfl) rfl (by exact cl_s my_189 rfl rfl rfl (Nat.le_of_ble_eq_true rfl) rfl rfl) (by rfl) (Nat.le_of_ble_eq_true rfl) (Nat.le_of_ble_eq_true rfl) rfl (by rfl) ?_
  refine w_f (a := 25) (b := 12) rfl rfl rfl ?_
  refine w_p (pc1 := 13) rfl rfl ?_
  refine w_m0 (pc1 := 16) rfl rfl (h_gC rfl rfl rfl rfl) rfl ?_
  refine w_p (pc1 := 17) rfl rfl ?_
  refine w_m0 (pc1 := 18) (st1 := .int 1 :: _) rfl rfl (n_ble (e := b) rfl rfl (by decide) rfl (by omega) (hf)) rfl ?_
  refine w_f (a := 25) (b := 21) rfl rfl rfl ?_
  refine w_p (pc1 := 22) (st1 := .int 1 :: _) rfl rfl ?_
  refine w_p (pc1 := 26) rfl rfl ?_
  refine w_p (pc1 := 27) (al1 := [(3, .int 1), (0, .ref 176), (1, .int (nI (b))), (2, .int 2)]) rfl rfl ?_
  refine w_p (pc1 := 28) rfl rfl ?_
  refine w_p (pc1 := 29) (st1 := .long 2 :: _) rfl rfl ?_
  refine w_m0 (pc1 := 32) (st1 := .long 4 :: _) rfl rfl rfl rfl ?_
  refine w_m0 (pc1 := 35) (st1 := .long 9 :: _) rfl rfl rfl rfl ?_
  refine w_je (pc1 := 38) (vs := [.long 2, .long 4, .long 9]) (rest := []) (st1 := [.int 0]) (m_189f (d := d) (sl := 0) (isIn_f (x := 2) (m := 4) (n := 9) rfl rfl (by decide))) rfl rfl rfl (fun _ _ => rfl) rfl (by exact cl_s my_189 rfl rfl rfl (Nat.le_of_ble_eq_true rfl) rfl rfl) (by rfl) (Nat.le_of_ble_eq_true rfl) (Nat.le_of_ble_eq_true rfl) rfl (by rfl) ?_
  refine w_t (a := 57) (b := 41) rfl rfl rfl ?_
  refine w_p (pc1 := 58) (st1 := .int 1 :: _) rfl rfl ?_
  refine w_p (pc1 := 62) rfl rfl ?_
  refine w_p (pc1 := 64) (al1 := [(4, .int 1), (3, .int 1), (0, .ref 176), (1, .int (nI (b))), (2, .int 2)]) rfl rfl ?_
  refine w_p (pc1 := 65) rfl rfl ?_
  refine w_p (pc1 := 66) rfl rfl ?_
  refine w_f (a := 78) (b := 69) rfl rfl rfl ?_
  refine w_p (pc1 := 71) rfl rfl ?_
  refine w_f (a := 78) (b := 74) rfl rfl rfl ?_
  refine w_p (pc1 := 75) (st1 := .int 1 :: _) rfl rfl ?_
  refine w_p (pc1 := 79) rfl rfl ?_
  refine w_p (pc1 := 80) rfl rfl ?_
  refine w_p (pc1 := 81) (st1 := .long 2 :: _) rfl rfl ?_
  refine w_p (pc1 := 82) (st1 := .long 0 :: _) rfl rfl ?_
  refine w_m0 (pc1 := 85) (st1 := .long 9 :: _) rfl rfl rfl rfl ?_
  refine w_je (pc1 := 88) (vs := [.long 2, .long 0, .long 9]) (rest := [.int 1, .ref 176]) (st1 := [.int 1, .int 1, .ref 176]) (m_189t (d := d) (sl := 0) (isIn_t (x := 2) (m := 0) (n := 9) rfl rfl (by decide) (by decide))) rfl rfl rfl (fun _ _ => rfl) rfl (by exact cl_s my_189 rfl rfl rfl (Nat.le_of_ble_eq_true rfl) rfl rfl) (by rfl) (Nat.le_of_ble_eq_true rfl) (Nat.le_of_ble_eq_true rfl) rfl (by rfl) ?_
  refine w_je (pc1 := 91) (vs := [.ref 176, .int 1, .int 1]) (rest := []) (st1 := [.int 1]) (m_190 (d := d) (sl := 0)) rfl rfl rfl (fun _ _ => rfl) rfl (by exact cl_v my_190 rfl rfl rfl (Nat.le_of_ble_eq_true rfl) rfl (MH_obj rfl rfl) rfl (by decide) rfl rfl) (by rfl) (Nat.le_of_ble_eq_true rfl) (Nat.le_of_ble_eq_true rfl) rfl (by rfl) ?_
  refine w_t (a := 96) (b := 94) rfl rfl rfl ?_
  refine w_p (pc1 := 97) rfl rfl ?_
  refine w_t (a := 110) (b := 100) rfl rfl rfl ?_
  refine w_p (pc1 := 111) rfl rfl ?_
  refine w_p (pc1 := 112) (st1 := .int 1 :: _) rfl rfl ?_
  refine w_t (a := 125) (b := 115) rfl rfl rfl ?_
  refine w_p (pc1 := 126) rfl rfl ?_
  refine w_p (pc1 := 127) (st1 := .int 2 :: _) rfl rfl ?_
  refine w_f (a := 140) (b := 130) rfl rfl rfl ?_
  refine w_p (pc1 := 131) rfl rfl ?_
  refine w_m0 (pc1 := 134) rfl rfl (h_gC rfl rfl rfl rfl) rfl ?_
  refine w_p (pc1 := 135) rfl rfl ?_
  refine w_m0 (pc1 := 136) rfl rfl (n_il (e := b) rfl rfl rfl (by omega)) rfl ?_
  refine w_p (pc1 := 137) rfl rfl ?_
  refine w_p (pc1 := 167) rfl rfl ?_
  refine w_r rfl rfl rfl (fun _ _ => rfl) rfl ?_
  exact ⟨rfl, rfl, rfl⟩
set_option maxRecDepth 100000 in
theorem m_290_3 (hb : b < 6) (hf : C.1 78 b = 1) : Wd L xs (d + 1) y_290 (0, [(0, .ref 176), (1, .int (nI b)), (2, .int 3)], [], MH C t, sl) (Rt (some (.long (C.2.1 79 b))) (MH (sI C 76 0 0) t) sl) nX := by
  refine w_p (pc1 := 1) rfl rfl ?_
  refine w_p (pc1 := 2) rfl rfl ?_
  refine w_p (pc1 := 3) (st1 := .long 0 :: _) rfl rfl ?_
  refine w_m0 (pc1 := 6) (st1 := .long 5 :: _) rfl rfl rfl rfl ?_
  refine w_je (pc1 := 9) (vs := [_, .long 0, .long 5]) (rest := []) (st1 := [.int 1]) (m_189t (d := d) (sl := 0) (isIn_t (x := nI b) (m := 0) (n := 5) rfl rfl (by rw [nK_int (by omega)]; omega) (by rw [nK_int (by omega)]; omega))) rfl rfl rfl (fun _ _ => rfl) rfl (by exact cl_s my_189 rfl rfl rfl (Nat.le_of_ble_eq_true rfl) rfl rfl) (by rfl) (Nat.le_of_ble_eq_true rfl) (Nat.le_of_ble_eq_true rfl) rfl (by rfl) ?_
  refine w_f (a := 25) (b := 12) rfl rfl rfl ?_
  refine w_p (pc1 := 13) rfl rfl ?_
  refine w_m0 (pc1 := 16) rfl rfl (h_gC rfl rfl rfl rfl) rfl ?_
  refine w_p (pc1 := 17) rfl rfl ?_
  refine w_m0 (pc1 := 18) (st1 := .int 1 :: _) rfl rfl (n_ble (e := b) rfl rfl (by decide) rfl (by omega) (hf)) rfl ?_
  refine w_f (a := 25) (b := 21) rfl rfl rfl ?_
  refine w_p (pc1 := 22) (st1 := .int 1 :: _) rfl rfl ?_
  refine w_p (pc1 := 26) rfl rfl ?_
  refine w_p (pc1 := 27) (al1 := [(3, .int 1), (0, .ref 176), (1, .int (nI (b))), (2, .int 3)]) rfl rfl ?_
  refine w_p (pc1 := 28) rfl rfl ?_
  refine w_p (pc1 := 29) (st1 := .long 3 :: _) rfl rfl ?_
  refine w_m0 (pc1 := 32) (st1 := .long 4 :: _) rfl rfl rfl rfl ?_
  refine w_m0 (pc1 := 35) (st1 := .long 9 :: _) rfl rfl rfl rfl ?_
  refine w_je (pc1 := 38) (vs := [.long 3, .long 4, .long 9]) (rest := []) (st1 := [.int 0]) (m_189f (d := d) (sl := 0) (isIn_f (x := 3) (m := 4) (n := 9) rfl rfl (by decide))) rfl rfl rfl (fun _ _ => rfl) rfl (by exact cl_s my_189 rfl rfl rfl (Nat.le_of_ble_eq_true rfl) rfl rfl) (by rfl) (Nat.le_of_ble_eq_true rfl) (Nat.le_of_ble_eq_true rfl) rfl (by rfl) ?_
  refine w_t (a := 57) (b := 41) rfl rfl rfl ?_
  refine w_p (pc1 := 58) (st1 := .int 1 :: _) rfl rfl ?_
  refine w_p (pc1 := 62) rfl rfl ?_
  refine w_p (pc1 := 64) (al1 := [(4, .int 1), (3, .int 1), (0, .ref 176), (1, .int (nI (b))), (2, .int 3)]) rfl rfl ?_
  refine w_p (pc1 := 65) rfl rfl ?_
  refine w_p (pc1 := 66) rfl rfl ?_
  refine w_f (a := 78) (b := 69) rfl rfl rfl ?_
  refine w_p (pc1 := 71) rfl rfl ?_
  refine w_f (a := 78) (b := 74) rfl rfl rfl ?_
  refine w_p (pc1 := 75) (st1 := .int 1 :: _) rfl rfl ?_
  refine w_p (pc1 := 79) rfl rfl ?_
  refine w_p (pc1 := 80) rfl rfl ?_
  refine w_p (pc1 := 81) (st1 := .long 3 :: _) rfl rfl ?_
  refine w_p (pc1 := 82) (st1 := .long 0 :: _) rfl rfl ?_
  refine w_m0 (pc1 := 85) (st1 := .long 9 :: _) rfl rfl rfl rfl ?_
  refine w_je (pc1 := 88) (vs := [.long 3, .long 0, .long 9]) (rest := [.int 1, .ref 176]) (st1 := [.int 1, .int 1, .ref 176]) (m_189t (d := d) (sl := 0) (isIn_t (x := 3) (m := 0) (n := 9) rfl rfl (by decide) (by decide))) rfl rfl rfl (fun _ _ => rfl) rfl (by exact cl_s my_189 rfl rfl rfl (Nat.le_of_ble_eq_true rfl) rfl rfl) (by rfl) (Nat.le_of_ble_eq_true rfl) (Nat.le_of_ble_eq_true rfl) rfl (by rfl) ?_
  refine w_je (pc1 := 91) (vs := [.ref 176, .int 1, .int 1]) (rest := []) (st1 := [.int 1]) (m_190 (d := d) (sl := 0)) rfl rfl rfl (fun _ _ => rfl) rfl (by exact cl_v my_190 rfl rfl rfl (Nat.le_of_ble_eq_true rfl) rfl (MH_obj rfl rfl) rfl (by decide) rfl rfl) (by rfl) (Nat.le_of_ble_eq_true rfl) (Nat.le_of_ble_eq_true rfl) rfl (by rfl) ?_
  refine w_t (a := 96) (b := 94) rfl rfl rfl ?_
  refine w_p (pc1 := 97) rfl rfl ?_
  refine w_t (a := 110) (b := 100) rfl rfl rfl ?_
  refine w_p (pc1 := 111) rfl rfl ?_
  refine w_p (pc1 := 112) (st1 := .int 1 :: _) rfl rfl ?_
  refine w_t (a := 125) (b := 115) rfl rfl rfl ?_
  refine w_p (pc1 := 126) rfl rfl ?_
  refine w_p (pc1 := 127) (st1 := .int 2 :: _) rfl rfl ?_
  refine w_t (a := 140) (b := 130) rfl rfl rfl ?_
  refine w_p (pc1 := 141) rfl rfl ?_
  refine w_p (pc1 := 142) (st1 := .int 3 :: _) rfl rfl ?_
  refine w_f (a := 154) (b := 145) rfl rfl rfl ?_
  refine w_p (pc1 := 146) rfl rfl ?_
  refine w_m0 (pc1 := 149) rfl rfl (h_gC rfl rfl rfl rfl) rfl ?_
  refine w_p (pc1 := 150) rfl rfl ?_
  refine w_m0 (pc1 := 151) rfl rfl (n_ll (e := b) rfl rfl rfl (by omega)) rfl ?_
  refine w_p (pc1 := 167) rfl rfl ?_
  refine w_r rfl rfl rfl (fun _ _ => rfl) rfl ?_
  exact ⟨rfl, rfl, rfl⟩
set_option maxRecDepth 100000 in
theorem m_290_4 (hb : b < 6) (hf : C.1 78 b = 1) (hw : C.1 80 b = nI w) (h6 : w ≤ 6) (hc : 0 < w) : Wd L xs (d + 1) y_290 (0, [(0, .ref 176), (1, .int (nI b)), (2, .int 4)], [], MH C t, sl) (Rt (some (.long (C.2.1 81 (6 * b + 0)))) (MH (sI C 76 0 0) t) sl) nX := by
  refine w_p (pc1 := 1) rfl rfl ?_
  refine w_p (pc1 := 2) rfl rfl ?_
  refine w_p (pc1 := 3) (st1 := .long 0 :: _) rfl rfl ?_
  refine w_m0 (pc1 := 6) (st1 := .long 5 :: _) rfl rfl rfl rfl ?_
  refine w_je (pc1 := 9) (vs := [_, .long 0, .long 5]) (rest := []) (st1 := [.int 1]) (m_189t (d := d) (sl := 0) (isIn_t (x := nI b) (m := 0) (n := 5) rfl rfl (by rw [nK_int (by omega)]; omega) (by rw [nK_int (by omega)]; omega))) rfl rfl rfl (fun _ _ => rfl) rfl (by exact cl_s my_189 rfl rfl rfl (Nat.le_of_ble_eq_true rfl) rfl rfl) (by rfl) (Nat.le_of_ble_eq_true rfl) (Nat.le_of_ble_eq_true rfl) rfl (by rfl) ?_
  refine w_f (a := 25) (b := 12) rfl rfl rfl ?_
  refine w_p (pc1 := 13) rfl rfl ?_
  refine w_m0 (pc1 := 16) rfl rfl (h_gC rfl rfl rfl rfl) rfl ?_
  refine w_p (pc1 := 17) rfl rfl ?_
  refine w_m0 (pc1 := 18) (st1 := .int 1 :: _) rfl rfl (n_ble (e := b) rfl rfl (by decide) rfl (by omega) (hf)) rfl ?_
  refine w_f (a := 25) (b := 21) rfl rfl rfl ?_
  refine w_p (pc1 := 22) (st1 := .int 1 :: _) rfl rfl ?_
  refine w_p (pc1 := 26) rfl rfl ?_
  refine w_p (pc1 := 27) (al1 := [(3, .int 1), (0, .ref 176), (1, .int (nI (b))), (2, .int 4)]) rfl rfl ?_
  refine w_p (pc1 := 28) rfl rfl ?_
  refine w_p (pc1 := 29) (st1 := .long 4 :: _) rfl rfl ?_
  refine w_m0 (pc1 := 32) (st1 := .long 4 :: _) rfl rfl rfl rfl ?_
  refine w_m0 (pc1 := 35) (st1 := .long 9 :: _) rfl rfl rfl rfl ?_
  refine w_je (pc1 := 38) (vs := [.long 4, .long 4, .long 9]) (rest := []) (st1 := [.int 1]) (m_189t (d := d) (sl := 0) (isIn_t (x := 4) (m := 4) (n := 9) rfl rfl (by decide) (by decide))) rfl rfl rfl (fun _ _ => rfl) rfl (by exact cl_s my_189 rfl rfl rfl (Nat.le_of_ble_eq_true rfl) rfl rfl) (by rfl) (Nat.le_of_ble_eq_true rfl) (Nat.le_of_ble_eq_true rfl) rfl (by rfl) ?_
  refine w_f (a := 57) (b := 41) rfl rfl rfl ?_
  refine w_p (pc1 := 42) rfl rfl ?_
  refine w_f (a := 61) (b := 45) rfl rfl rfl ?_
  refine w_p (pc1 := 46) rfl rfl ?_
  refine w_p (pc1 := 47) (st1 := .int 4 :: _) rfl rfl ?_
  refine w_p (pc1 := 48) (st1 := .int 0 :: _) rfl rfl ?_
  refine w_p (pc1 := 49) rfl rfl ?_
  refine w_m0 (pc1 := 52) rfl rfl (h_gC rfl rfl rfl rfl) rfl ?_
  refine w_p (pc1 := 53) rfl rfl ?_
  refine w_m0 (pc1 := 54) (st1 := .int (nI (w)) :: _) rfl rfl (n_ile (e := b) rfl rfl rfl (by omega) (hw)) rfl ?_
  refine w_f (a := 61) (b := 57) (bN_ge_f (a := 0) (b := w) (by omega) (by omega) (by omega)) rfl rfl ?_
  refine w_p (pc1 := 58) (st1 := .int 1 :: _) rfl rfl ?_
  refine w_p (pc1 := 62) rfl rfl ?_
  refine w_p (pc1 := 64) (al1 := [(4, .int 1), (3, .int 1), (0, .ref 176), (1, .int (nI (b))), (2, .int 4)]) rfl rfl ?_
  refine w_p (pc1 := 65) rfl rfl ?_
  refine w_p (pc1 := 66) rfl rfl ?_
  refine w_f (a := 78) (b := 69) rfl rfl rfl ?_
  refine w_p (pc1 := 71) rfl rfl ?_
  refine w_f (a := 78) (b := 74) rfl rfl rfl ?_
  refine w_p (pc1 := 75) (st1 := .int 1 :: _) rfl rfl ?_
  refine w_p (pc1 := 79) rfl rfl ?_
  refine w_p (pc1 := 80) rfl rfl ?_
  refine w_p (pc1 := 81) (st1 := .long 4 :: _) rfl rfl ?_
  refine w_p (pc1 := 82) (st1 := .long 0 :: _) rfl rfl ?_
  refine w_m0 (pc1 := 85) (st1 := .long 9 :: _) rfl rfl rfl rfl ?_
  refine w_je (pc1 := 88) (vs := [.long 4, .long 0, .long 9]) (rest := [.int 1, .ref 176]) (st1 := [.int 1, .int 1, .ref 176]) (m_189t (d := d) (sl := 0) (isIn_t (x := 4) (m := 0) (n := 9) rfl rfl (by decide) (by decide))) rfl rfl rfl (fun _ _ => rfl) rfl (by exact cl_s my_189 rfl rfl rfl (Nat.le_of_ble_eq_true rfl) rfl rfl) (by rfl) (Nat.le_of_ble_eq_true rfl) (Nat.le_of_ble_eq_true rfl) rfl (by rfl) ?_
  refine w_je (pc1 := 91) (vs := [.ref 176, .int 1, .int 1]) (rest := []) (st1 := [.int 1]) (m_190 (d := d) (sl := 0)) rfl rfl rfl (fun _ _ => rfl) rfl (by exact cl_v my_190 rfl rfl rfl (Nat.le_of_ble_eq_true rfl) rfl (MH_obj rfl rfl) rfl (by decide) rfl rfl) (by rfl) (Nat.le_of_ble_eq_true rfl) (Nat.le_of_ble_eq_true rfl) rfl (by rfl) ?_
  refine w_t (a := 96) (b := 94) rfl rfl rfl ?_
  refine w_p (pc1 := 97) rfl rfl ?_
  refine w_t (a := 110) (b := 100) rfl rfl rfl ?_
  refine w_p (pc1 := 111) rfl rfl ?_
  refine w_p (pc1 := 112) (st1 := .int 1 :: _) rfl rfl ?_
  refine w_t (a := 125) (b := 115) rfl rfl rfl ?_
  refine w_p (pc1 := 126) rfl rfl ?_
  refine w_p (pc1 := 127) (st1 := .int 2 :: _) rfl rfl ?_
  refine w_t (a := 140) (b := 130) rfl rfl rfl ?_
  refine w_p (pc1 := 141) rfl rfl ?_
  refine w_p (pc1 := 142) (st1 := .int 3 :: _) rfl rfl ?_
  refine w_t (a := 154) (b := 145) rfl rfl rfl ?_
  refine w_p (pc1 := 155) rfl rfl ?_
  refine w_m0 (pc1 := 158) rfl rfl (h_gC rfl rfl rfl rfl) rfl ?_
  refine w_p (pc1 := 160) (st1 := .int 6 :: _) rfl rfl ?_
  refine w_p (pc1 := 161) rfl rfl ?_
  refine w_imul (pc1 := 162) (u := nI (6)) (v := nI (b)) (z := nI (6 * b)) rfl (nK_mul) rfl ?_
  refine w_p (pc1 := 163) rfl rfl ?_
  refine w_iadd (pc1 := 164) (u := nI (6 * b)) (v := nI (4)) (z := nI (6 * b + 4)) rfl (nK_add) rfl ?_
  refine w_p (pc1 := 165) (st1 := .int 4 :: _) rfl rfl ?_
  refine w_isub (pc1 := 166) (u := nI (6 * b + 4)) (v := nI (4)) (z := nI (6 * b + 4 - 4)) rfl (nK_sub (by omega)) rfl ?_
  refine w_m0 (pc1 := 167) rfl rfl (n_ll (e := 6 * b + 4 - 4) rfl rfl rfl (by omega)) rfl ?_
  refine w_r rfl rfl rfl (fun _ _ => rfl) rfl ?_
  exact ⟨rfl, rfl, rfl⟩
set_option maxRecDepth 100000 in
theorem m_290_4n (hb : b < 6) (hf : C.1 78 b = 1) (hw : C.1 80 b = nI w) (h6 : w ≤ 6) (hc : w ≤ 0) : Wd L xs (d + 1) y_290 (0, [(0, .ref 176), (1, .int (nI b)), (2, .int 4)], [], MH C t, sl) (Rt (some (.long (0))) (MH (sI C 76 0 1) t) sl) nX := by
  refine w_p (pc1 := 1) rfl rfl ?_
  refine w_p (pc1 := 2) rfl rfl ?_
  refine w_p (pc1 := 3) (st1 := .long 0 :: _) rfl rfl ?_
  refine w_m0 (pc1 := 6) (st1 := .long 5 :: _) rfl rfl rfl rfl ?_
  refine w_je (pc1 := 9) (vs := [_, .long 0, .long 5]) (rest := []) (st1 := [.int 1]) (m_189t (d := d) (sl := 0) (isIn_t (x := nI b) (m := 0) (n := 5) rfl rfl (by rw [nK_int (by omega)]; omega) (by rw [nK_int (by omega)]; omega))) rfl rfl rfl (fun _ _ => rfl) rfl (by exact cl_s my_189 rfl rfl rfl (Nat.le_of_ble_eq_true rfl) rfl rfl) (by rfl) (Nat.le_of_ble_eq_true rfl) (Nat.le_of_ble_eq_true rfl) rfl (by rfl) ?_
  refine w_f (a := 25) (b := 12) rfl rfl rfl ?_
  refine w_p (pc1 := 13) rfl rfl ?_
  refine w_m0 (pc1 := 16) rfl rfl (h_gC rfl rfl rfl rfl) rfl ?_
  refine w_p (pc1 := 17) rfl rfl ?_
  refine w_m0 (pc1 := 18) (st1 := .int 1 :: _) rfl rfl (n_ble (e := b) rfl rfl (by decide) rfl (by omega) (hf)) rfl ?_
  refine w_f (a := 25) (b := 21) rfl rfl rfl ?_
  refine w_p (pc1 := 22) (st1 := .int 1 :: _) rfl rfl ?_
  refine w_p (pc1 := 26) rfl rfl ?_
  refine w_p (pc1 := 27) (al1 := [(3, .int 1), (0, .ref 176), (1, .int (nI (b))), (2, .int 4)]) rfl rfl ?_
  refine w_p (pc1 := 28) rfl rfl ?_
  refine w_p (pc1 := 29) (st1 := .long 4 :: _) rfl rfl ?_
  refine w_m0 (pc1 := 32) (st1 := .long 4 :: _) rfl rfl rfl rfl ?_
  refine w_m0 (pc1 := 35) (st1 := .long 9 :: _) rfl rfl rfl rfl ?_
  refine w_je (pc1 := 38) (vs := [.long 4, .long 4, .long 9]) (rest := []) (st1 := [.int 1]) (m_189t (d := d) (sl := 0) (isIn_t (x := 4) (m := 4) (n := 9) rfl rfl (by decide) (by decide))) rfl rfl rfl (fun _ _ => rfl) rfl (by exact cl_s my_189 rfl rfl rfl (Nat.le_of_ble_eq_true rfl) rfl rfl) (by rfl) (Nat.le_of_ble_eq_true rfl) (Nat.le_of_ble_eq_true rfl) rfl (by rfl) ?_
  refine w_f (a := 57) (b := 41) rfl rfl rfl ?_
  refine w_p (pc1 := 42) rfl rfl ?_
  refine w_f (a := 61) (b := 45) rfl rfl rfl ?_
  refine w_p (pc1 := 46) rfl rfl ?_
  refine w_p (pc1 := 47) (st1 := .int 4 :: _) rfl rfl ?_
  refine w_p (pc1 := 48) (st1 := .int 0 :: _) rfl rfl ?_
  refine w_p (pc1 := 49) rfl rfl ?_
  refine w_m0 (pc1 := 52) rfl rfl (h_gC rfl rfl rfl rfl) rfl ?_
  refine w_p (pc1 := 53) rfl rfl ?_
  refine w_m0 (pc1 := 54) (st1 := .int (nI (w)) :: _) rfl rfl (n_ile (e := b) rfl rfl rfl (by omega) (hw)) rfl ?_
  refine w_t (a := 61) (b := 57) (bN_ge_t (a := 0) (b := w) (by omega) (by omega) (by omega)) rfl rfl ?_
  refine w_p (pc1 := 62) (st1 := .int 0 :: _) rfl rfl ?_
  refine w_p (pc1 := 64) (al1 := [(4, .int 0), (3, .int 1), (0, .ref 176), (1, .int (nI (b))), (2, .int 4)]) rfl rfl ?_
  refine w_p (pc1 := 65) rfl rfl ?_
  refine w_p (pc1 := 66) rfl rfl ?_
  refine w_f (a := 78) (b := 69) rfl rfl rfl ?_
  refine w_p (pc1 := 71) rfl rfl ?_
  refine w_t (a := 78) (b := 74) rfl rfl rfl ?_
  refine w_p (pc1 := 79) (st1 := .int 0 :: _) rfl rfl ?_
  refine w_p (pc1 := 80) rfl rfl ?_
  refine w_p (pc1 := 81) (st1 := .long 4 :: _) rfl rfl ?_
  refine w_p (pc1 := 82) (st1 := .long 0 :: _) rfl rfl ?_
  refine w_m0 (pc1 := 85) (st1 := .long 9 :: _) rfl rfl rfl rfl ?_
  refine w_je (pc1 := 88) (vs := [.long 4, .long 0, .long 9]) (rest := [.int 0, .ref 176]) (st1 := [.int 1, .int 0, .ref 176]) (m_189t (d := d) (sl := 0) (isIn_t (x := 4) (m := 0) (n := 9) rfl rfl (by decide) (by decide))) rfl rfl rfl (fun _ _ => rfl) rfl (by exact cl_s my_189 rfl rfl rfl (Nat.le_of_ble_eq_true rfl) rfl rfl) (by rfl) (Nat.le_of_ble_eq_true rfl) (Nat.le_of_ble_eq_true rfl) rfl (by rfl) ?_
  refine w_je (pc1 := 91) (vs := [.ref 176, .int 0, .int 1]) (rest := []) (st1 := [.int 0]) (m_190 (d := d) (sl := 0)) rfl rfl rfl (fun _ _ => rfl) rfl (by exact cl_v my_190 rfl rfl rfl (Nat.le_of_ble_eq_true rfl) rfl (MH_obj rfl rfl) rfl (by decide) rfl rfl) (by rfl) (Nat.le_of_ble_eq_true rfl) (Nat.le_of_ble_eq_true rfl) rfl (by rfl) ?_
  refine w_f (a := 96) (b := 94) rfl rfl rfl ?_
  refine w_p (pc1 := 95) (st1 := .long 0 :: _) rfl rfl ?_
  refine w_r rfl rfl rfl (fun _ _ => rfl) rfl ?_
  exact ⟨rfl, rfl, rfl⟩
set_option maxRecDepth 100000 in
theorem m_290_5 (hb : b < 6) (hf : C.1 78 b = 1) (hw : C.1 80 b = nI w) (h6 : w ≤ 6) (hc : 1 < w) : Wd L xs (d + 1) y_290 (0, [(0, .ref 176), (1, .int (nI b)), (2, .int 5)], [], MH C t, sl) (Rt (some (.long (C.2.1 81 (6 * b + 1)))) (MH (sI C 76 0 0) t) sl) nX := by
  refine w_p (pc1 := 1) rfl rfl ?_
  refine w_p (pc1 := 2) rfl rfl ?_
  refine w_p (pc1 := 3) (st1 := .long 0 :: _) rfl rfl ?_
  refine w_m0 (pc1 := 6) (st1 := .long 5 :: _) rfl rfl rfl rfl ?_
  refine w_je (pc1 := 9) (vs := [_, .long 0, .long 5]) (rest := []) (st1 := [.int 1]) (m_189t (d := d) (sl := 0) (isIn_t (x := nI b) (m := 0) (n := 5) rfl rfl (by rw [nK_int (by omega)]; omega) (by rw [nK_int (by omega)]; omega))) rfl rfl rfl (fun _ _ => rfl) rfl (by exact cl_s my_189 rfl rfl rfl (Nat.le_of_ble_eq_true rfl) rfl rfl) (by rfl) (Nat.le_of_ble_eq_true rfl) (Nat.le_of_ble_eq_true rfl) rfl (by rfl) ?_
  refine w_f (a := 25) (b := 12) rfl rfl rfl ?_
  refine w_p (pc1 := 13) rfl rfl ?_
  refine w_m0 (pc1 := 16) rfl rfl (h_gC rfl rfl rfl rfl) rfl ?_
  refine w_p (pc1 := 17) rfl rfl ?_
  refine w_m0 (pc1 := 18) (st1 := .int 1 :: _) rfl rfl (n_ble (e := b) rfl rfl (by decide) rfl (by omega) (hf)) rfl ?_
  refine w_f (a := 25) (b := 21) rfl rfl rfl ?_
  refine w_p (pc1 := 22) (st1 := .int 1 :: _) rfl rfl ?_
  refine w_p (pc1 := 26) rfl rfl ?_
  refine w_p (pc1 := 27) (al1 := [(3, .int 1), (0, .ref 176), (1, .int (nI (b))), (2, .int 5)]) rfl rfl ?_
  refine w_p (pc1 := 28) rfl rfl ?_
  refine w_p (pc1 := 29) (st1 := .long 5 :: _) rfl rfl ?_
  refine w_m0 (pc1 := 32) (st1 := .long 4 :: _) rfl rfl rfl rfl ?_
  refine w_m0 (pc1 := 35) (st1 := .long 9 :: _) rfl rfl rfl rfl ?_
  refine w_je (pc1 := 38) (vs := [.long 5, .long 4, .long 9]) (rest := []) (st1 := [.int 1]) (m_189t (d := d) (sl := 0) (isIn_t (x := 5) (m := 4) (n := 9) rfl rfl (by decide) (by decide))) rfl rfl rfl (fun _ _ => rfl) rfl (by exact cl_s my_189 rfl rfl rfl (Nat.le_of_ble_eq_true rfl) rfl rfl) (by rfl) (Nat.le_of_ble_eq_true rfl) (Nat.le_of_ble_eq_true rfl) rfl (by rfl) ?_
  refine w_f (a := 57) (b := 41) rfl rfl rfl ?_
  refine w_p (pc1 := 42) rfl rfl ?_
  refine w_f (a := 61) (b := 45) rfl rfl rfl ?_
  refine w_p (pc1 := 46) rfl rfl ?_
  refine w_p (pc1 := 47) (st1 := .int 4 :: _) rfl rfl ?_
  refine w_p (pc1 := 48) (st1 := .int 1 :: _) rfl rfl ?_
  refine w_p (pc1 := 49) rfl rfl ?_
  refine w_m0 (pc1 := 52) rfl rfl (h_gC rfl rfl rfl rfl) rfl ?_
  refine w_p (pc1 := 53) rfl rfl ?_
  refine w_m0 (pc1 := 54) (st1 := .int (nI (w)) :: _) rfl rfl (n_ile (e := b) rfl rfl rfl (by omega) (hw)) rfl ?_
  refine w_f (a := 61) (b := 57) (bN_ge_f (a := 1) (b := w) (by omega) (by omega) (by omega)) rfl rfl ?_
  refine w_p (pc1 := 58) (st1 := .int 1 :: _) rfl rfl ?_
  refine w_p (pc1 := 62) rfl rfl ?_
  refine w_p (pc1 := 64) (al1 := [(4, .int 1), (3, .int 1), (0, .ref 176), (1, .int (nI (b))), (2, .int 5)]) rfl rfl ?_
  refine w_p (pc1 := 65) rfl rfl ?_
  refine w_p (pc1 := 66) rfl rfl ?_
  refine w_f (a := 78) (b := 69) rfl rfl rfl ?_
  refine w_p (pc1 := 71) rfl rfl ?_
  refine w_f (a := 78) (b := 74) rfl rfl rfl ?_
  refine w_p (pc1 := 75) (st1 := .int 1 :: _) rfl rfl ?_
  refine w_p (pc1 := 79) rfl rfl ?_
  refine w_p (pc1 := 80) rfl rfl ?_
  refine w_p (pc1 := 81) (st1 := .long 5 :: _) rfl rfl ?_
  refine w_p (pc1 := 82) (st1 := .long 0 :: _) rfl rfl ?_
  refine w_m0 (pc1 := 85) (st1 := .long 9 :: _) rfl rfl rfl rfl ?_
  refine w_je (pc1 := 88) (vs := [.long 5, .long 0, .long 9]) (rest := [.int 1, .ref 176]) (st1 := [.int 1, .int 1, .ref 176]) (m_189t (d := d) (sl := 0) (isIn_t (x := 5) (m := 0) (n := 9) rfl rfl (by decide) (by decide))) rfl rfl rfl (fun _ _ => rfl) rfl (by exact cl_s my_189 rfl rfl rfl (Nat.le_of_ble_eq_true rfl) rfl rfl) (by rfl) (Nat.le_of_ble_eq_true rfl) (Nat.le_of_ble_eq_true rfl) rfl (by rfl) ?_
  refine w_je (pc1 := 91) (vs := [.ref 176, .int 1, .int 1]) (rest := []) (st1 := [.int 1]) (m_190 (d := d) (sl := 0)) rfl rfl rfl (fun _ _ => rfl) rfl (by exact cl_v my_190 rfl rfl rfl (Nat.le_of_ble_eq_true rfl) rfl (MH_obj rfl rfl) rfl (by decide) rfl rfl) (by rfl) (Nat.le_of_ble_eq_true rfl) (Nat.le_of_ble_eq_true rfl) rfl (by rfl) ?_
  refine w_t (a := 96) (b := 94) rfl rfl rfl ?_
  refine w_p (pc1 := 97) rfl rfl ?_
  refine w_t (a := 110) (b := 100) rfl rfl rfl ?_
  refine w_p (pc1 := 111) rfl rfl ?_
  refine w_p (pc1 := 112) (st1 := .int 1 :: _) rfl rfl ?_
  refine w_t (a := 125) (b := 115) rfl rfl rfl ?_
  refine w_p (pc1 := 126) rfl rfl ?_
  refine w_p (pc1 := 127) (st1 := .int 2 :: _) rfl rfl ?_
  refine w_t (a := 140) (b := 130) rfl rfl rfl ?_
  refine w_p (pc1 := 141) rfl rfl ?_
  refine w_p (pc1 := 142) (st1 := .int 3 :: _) rfl rfl ?_
  refine w_t (a := 154) (b := 145) rfl rfl rfl ?_
  refine w_p (pc1 := 155) rfl rfl ?_
  refine w_m0 (pc1 := 158) rfl rfl (h_gC rfl rfl rfl rfl) rfl ?_
  refine w_p (pc1 := 160) (st1 := .int 6 :: _) rfl rfl ?_
  refine w_p (pc1 := 161) rfl rfl ?_
  refine w_imul (pc1 := 162) (u := nI (6)) (v := nI (b)) (z := nI (6 * b)) rfl (nK_mul) rfl ?_
  refine w_p (pc1 := 163) rfl rfl ?_
  refine w_iadd (pc1 := 164) (u := nI (6 * b)) (v := nI (5)) (z := nI (6 * b + 5)) rfl (nK_add) rfl ?_
  refine w_p (pc1 := 165) (st1 := .int 4 :: _) rfl rfl ?_
  refine w_isub (pc1 := 166) (u := nI (6 * b + 5)) (v := nI (4)) (z := nI (6 * b + 5 - 4)) rfl (nK_sub (by omega)) rfl ?_
  refine w_m0 (pc1 := 167) rfl rfl (n_ll (e := 6 * b + 5 - 4) rfl rfl rfl (by omega)) rfl ?_
  refine w_r rfl rfl rfl (fun _ _ => rfl) rfl ?_
  exact ⟨rfl, rfl, rfl⟩
set_option maxRecDepth 100000 in
theorem m_290_5n (hb : b < 6) (hf : C.1 78 b = 1) (hw : C.1 80 b = nI w) (h6 : w ≤ 6) (hc : w ≤ 1) : Wd L xs (d + 1) y_290 (0, [(0, .ref 176), (1, .int (nI b)), (2, .int 5)], [], MH C t, sl) (Rt (some (.long (0))) (MH (sI C 76 0 1) t) sl) nX := by
  refine w_p (pc1 := 1) rfl rfl ?_
  refine w_p (pc1 := 2) rfl rfl ?_
  refine w_p (pc1 := 3) (st1 := .long 0 :: _) rfl rfl ?_
  refine w_m0 (pc1 := 6) (st1 := .long 5 :: _) rfl rfl rfl rfl ?_
  refine w_je (pc1 := 9) (vs := [_, .long 0, .long 5]) (rest := []) (st1 := [.int 1]) (m_189t (d := d) (sl := 0) (isIn_t (x := nI b) (m := 0) (n := 5) rfl rfl (by rw [nK_int (by omega)]; omega) (by rw [nK_int (by omega)]; omega))) rfl rfl rfl (fun _ _ => rfl) rfl (by exact cl_s my_189 rfl rfl rfl (Nat.le_of_ble_eq_true rfl) rfl rfl) (by rfl) (Nat.le_of_ble_eq_true rfl) (Nat.le_of_ble_eq_true rfl) rfl (by rfl) ?_
  refine w_f (a := 25) (b := 12) rfl rfl rfl ?_
  refine w_p (pc1 := 13) rfl rfl ?_
  refine w_m0 (pc1 := 16) rfl rfl (h_gC rfl rfl rfl rfl) rfl ?_
  refine w_p (pc1 := 17) rfl rfl ?_
  refine w_m0 (pc1 := 18) (st1 := .int 1 :: _) rfl rfl (n_ble (e := b) rfl rfl (by decide) rfl (by omega) (hf)) rfl ?_
  refine w_f (a := 25) (b := 21) rfl rfl rfl ?_
  refine w_p (pc1 := 22) (st1 := .int 1 :: _) rfl rfl ?_
  refine w_p (pc1 := 26) rfl rfl ?_
  refine w_p (pc1 := 27) (al1 := [(3, .int 1), (0, .ref 176), (1, .int (nI (b))), (2, .int 5)]) rfl rfl ?_
  refine w_p (pc1 := 28) rfl rfl ?_
  refine w_p (pc1 := 29) (st1 := .long 5 :: _) rfl rfl ?_
  refine w_m0 (pc1 := 32) (st1 := .long 4 :: _) rfl rfl rfl rfl ?_
  refine w_m0 (pc1 := 35) (st1 := .long 9 :: _) rfl rfl rfl rfl ?_
  refine w_je (pc1 := 38) (vs := [.long 5, .long 4, .long 9]) (rest := []) (st1 := [.int 1]) (m_189t (d := d) (sl := 0) (isIn_t (x := 5) (m := 4) (n := 9) rfl rfl (by decide) (by decide))) rfl rfl rfl (fun _ _ => rfl) rfl (by exact cl_s my_189 rfl rfl rfl (Nat.le_of_ble_eq_true rfl) rfl rfl) (by rfl) (Nat.le_of_ble_eq_true rfl) (Nat.le_of_ble_eq_true rfl) rfl (by rfl) ?_
  refine w_f (a := 57) (b := 41) rfl rfl rfl ?_
  refine w_p (pc1 := 42) rfl rfl ?_
  refine w_f (a := 61) (b := 45) rfl rfl rfl ?_
  refine w_p (pc1 := 46) rfl rfl ?_
  refine w_p (pc1 := 47) (st1 := .int 4 :: _) rfl rfl ?_
  refine w_p (pc1 := 48) (st1 := .int 1 :: _) rfl rfl ?_
  refine w_p (pc1 := 49) rfl rfl ?_
  refine w_m0 (pc1 := 52) rfl rfl (h_gC rfl rfl rfl rfl) rfl ?_
  refine w_p (pc1 := 53) rfl rfl ?_
  refine w_m0 (pc1 := 54) (st1 := .int (nI (w)) :: _) rfl rfl (n_ile (e := b) rfl rfl rfl (by omega) (hw)) rfl ?_
  refine w_t (a := 61) (b := 57) (bN_ge_t (a := 1) (b := w) (by omega) (by omega) (by omega)) rfl rfl ?_
  refine w_p (pc1 := 62) (st1 := .int 0 :: _) rfl rfl ?_
  refine w_p (pc1 := 64) (al1 := [(4, .int 0), (3, .int 1), (0, .ref 176), (1, .int (nI (b))), (2, .int 5)]) rfl rfl ?_
  refine w_p (pc1 := 65) rfl rfl ?_
  refine w_p (pc1 := 66) rfl rfl ?_
  refine w_f (a := 78) (b := 69) rfl rfl rfl ?_
  refine w_p (pc1 := 71) rfl rfl ?_
  refine w_t (a := 78) (b := 74) rfl rfl rfl ?_
  refine w_p (pc1 := 79) (st1 := .int 0 :: _) rfl rfl ?_
  refine w_p (pc1 := 80) rfl rfl ?_
  refine w_p (pc1 := 81) (st1 := .long 5 :: _) rfl rfl ?_
  refine w_p (pc1 := 82) (st1 := .long 0 :: _) rfl rfl ?_
  refine w_m0 (pc1 := 85) (st1 := .long 9 :: _) rfl rfl rfl rfl ?_
  refine w_je (pc1 := 88) (vs := [.long 5, .long 0, .long 9]) (rest := [.int 0, .ref 176]) (st1 := [.int 1, .int 0, .ref 176]) (m_189t (d := d) (sl := 0) (isIn_t (x := 5) (m := 0) (n := 9) rfl rfl (by decide) (by decide))) rfl rfl rfl (fun _ _ => rfl) rfl (by exact cl_s my_189 rfl rfl rfl (Nat.le_of_ble_eq_true rfl) rfl rfl) (by rfl) (Nat.le_of_ble_eq_true rfl) (Nat.le_of_ble_eq_true rfl) rfl (by rfl) ?_
  refine w_je (pc1 := 91) (vs := [.ref 176, .int 0, .int 1]) (rest := []) (st1 := [.int 0]) (m_190 (d := d) (sl := 0)) rfl rfl rfl (fun _ _ => rfl) rfl (by exact cl_v my_190 rfl rfl rfl (Nat.le_of_ble_eq_true rfl) rfl (MH_obj rfl rfl) rfl (by decide) rfl rfl) (by rfl) (Nat.le_of_ble_eq_true rfl) (Nat.le_of_ble_eq_true rfl) rfl (by rfl) ?_
  refine w_f (a := 96) (b := 94) rfl rfl rfl ?_
  refine w_p (pc1 := 95) (st1 := .long 0 :: _) rfl rfl ?_
  refine w_r rfl rfl rfl (fun _ _ => rfl) rfl ?_
  exact ⟨rfl, rfl, rfl⟩
set_option maxRecDepth 100000 in
theorem m_290_6 (hb : b < 6) (hf : C.1 78 b = 1) (hw : C.1 80 b = nI w) (h6 : w ≤ 6) (hc : 2 < w) : Wd L xs (d + 1) y_290 (0, [(0, .ref 176), (1, .int (nI b)), (2, .int 6)], [], MH C t, sl) (Rt (some (.long (C.2.1 81 (6 * b + 2)))) (MH (sI C 76 0 0) t) sl) nX := by
  refine w_p (pc1 := 1) rfl rfl ?_
  refine w_p (pc1 := 2) rfl rfl ?_
  refine w_p (pc1 := 3) (st1 := .long 0 :: _) rfl rfl ?_
  refine w_m0 (pc1 := 6) (st1 := .long 5 :: _) rfl rfl rfl rfl ?_
  refine w_je (pc1 := 9) (vs := [_, .long 0, .long 5]) (rest := []) (st1 := [.int 1]) (m_189t (d := d) (sl := 0) (isIn_t (x := nI b) (m := 0) (n := 5) rfl rfl (by rw [nK_int (by omega)]; omega) (by rw [nK_int (by omega)]; omega))) rfl rfl rfl (fun _ _ => rfl) rfl (by exact cl_s my_189 rfl rfl rfl (Nat.le_of_ble_eq_true rfl) rfl rfl) (by rfl) (Nat.le_of_ble_eq_true rfl) (Nat.le_of_ble_eq_true rfl) rfl (by rfl) ?_
  refine w_f (a := 25) (b := 12) rfl rfl rfl ?_
  refine w_p (pc1 := 13) rfl rfl ?_
  refine w_m0 (pc1 := 16) rfl rfl (h_gC rfl rfl rfl rfl) rfl ?_
  refine w_p (pc1 := 17) rfl rfl ?_
  refine w_m0 (pc1 := 18) (st1 := .int 1 :: _) rfl rfl (n_ble (e := b) rfl rfl (by decide) rfl (by omega) (hf)) rfl ?_
  refine w_f (a := 25) (b := 21) rfl rfl rfl ?_
  refine w_p (pc1 := 22) (st1 := .int 1 :: _) rfl rfl ?_
  refine w_p (pc1 := 26) rfl rfl ?_
  refine w_p (pc1 := 27) (al1 := [(3, .int 1), (0, .ref 176), (1, .int (nI (b))), (2, .int 6)]) rfl rfl ?_
  refine w_p (pc1 := 28) rfl rfl ?_
  refine w_p (pc1 := 29) (st1 := .long 6 :: _) rfl rfl ?_
  refine w_m0 (pc1 := 32) (st1 := .long 4 :: _) rfl rfl rfl rfl ?_
  refine w_m0 (pc1 := 35) (st1 := .long 9 :: _) rfl rfl rfl rfl ?_
  refine w_je (pc1 := 38) (vs := [.long 6, .long 4, .long 9]) (rest := []) (st1 := [.int 1]) (m_189t (d := d) (sl := 0) (isIn_t (x := 6) (m := 4) (n := 9) rfl rfl (by decide) (by decide))) rfl rfl rfl (fun _ _ => rfl) rfl (by exact cl_s my_189 rfl rfl rfl (Nat.le_of_ble_eq_true rfl) rfl rfl) (by rfl) (Nat.le_of_ble_eq_true rfl) (Nat.le_of_ble_eq_true rfl) rfl (by rfl) ?_
  refine w_f (a := 57) (b := 41) rfl rfl rfl ?_
  refine w_p (pc1 := 42) rfl rfl ?_
  refine w_f (a := 61) (b := 45) rfl rfl rfl ?_
  refine w_p (pc1 := 46) rfl rfl ?_
  refine w_p (pc1 := 47) (st1 := .int 4 :: _) rfl rfl ?_
  refine w_p (pc1 := 48) (st1 := .int 2 :: _) rfl rfl ?_
  refine w_p (pc1 := 49) rfl rfl ?_
  refine w_m0 (pc1 := 52) rfl rfl (h_gC rfl rfl rfl rfl) rfl ?_
  refine w_p (pc1 := 53) rfl rfl ?_
  refine w_m0 (pc1 := 54) (st1 := .int (nI (w)) :: _) rfl rfl (n_ile (e := b) rfl rfl rfl (by omega) (hw)) rfl ?_
  refine w_f (a := 61) (b := 57) (bN_ge_f (a := 2) (b := w) (by omega) (by omega) (by omega)) rfl rfl ?_
  refine w_p (pc1 := 58) (st1 := .int 1 :: _) rfl rfl ?_
  refine w_p (pc1 := 62) rfl rfl ?_
  refine w_p (pc1 := 64) (al1 := [(4, .int 1), (3, .int 1), (0, .ref 176), (1, .int (nI (b))), (2, .int 6)]) rfl rfl ?_
  refine w_p (pc1 := 65) rfl rfl ?_
  refine w_p (pc1 := 66) rfl rfl ?_
  refine w_f (a := 78) (b := 69) rfl rfl rfl ?_
  refine w_p (pc1 := 71) rfl rfl ?_
  refine w_f (a := 78) (b := 74) rfl rfl rfl ?_
  refine w_p (pc1 := 75) (st1 := .int 1 :: _) rfl rfl ?_
  refine w_p (pc1 := 79) rfl rfl ?_
  refine w_p (pc1 := 80) rfl rfl ?_
  refine w_p (pc1 := 81) (st1 := .long 6 :: _) rfl rfl ?_
  refine w_p (pc1 := 82) (st1 := .long 0 :: _) rfl rfl ?_
  refine w_m0 (pc1 := 85) (st1 := .long 9 :: _) rfl rfl rfl rfl ?_
  refine w_je (pc1 := 88) (vs := [.long 6, .long 0, .long 9]) (rest := [.int 1, .ref 176]) (st1 := [.int 1, .int 1, .ref 176]) (m_189t (d := d) (sl := 0) (isIn_t (x := 6) (m := 0) (n := 9) rfl rfl (by decide) (by decide))) rfl rfl rfl (fun _ _ => rfl) rfl (by exact cl_s my_189 rfl rfl rfl (Nat.le_of_ble_eq_true rfl) rfl rfl) (by rfl) (Nat.le_of_ble_eq_true rfl) (Nat.le_of_ble_eq_true rfl) rfl (by rfl) ?_
  refine w_je (pc1 := 91) (vs := [.ref 176, .int 1, .int 1]) (rest := []) (st1 := [.int 1]) (m_190 (d := d) (sl := 0)) rfl rfl rfl (fun _ _ => rfl) rfl (by exact cl_v my_190 rfl rfl rfl (Nat.le_of_ble_eq_true rfl) rfl (MH_obj rfl rfl) rfl (by decide) rfl rfl) (by rfl) (Nat.le_of_ble_eq_true rfl) (Nat.le_of_ble_eq_true rfl) rfl (by rfl) ?_
  refine w_t (a := 96) (b := 94) rfl rfl rfl ?_
  refine w_p (pc1 := 97) rfl rfl ?_
  refine w_t (a := 110) (b := 100) rfl rfl rfl ?_
  refine w_p (pc1 := 111) rfl rfl ?_
  refine w_p (pc1 := 112) (st1 := .int 1 :: _) rfl rfl ?_
  refine w_t (a := 125) (b := 115) rfl rfl rfl ?_
  refine w_p (pc1 := 126) rfl rfl ?_
  refine w_p (pc1 := 127) (st1 := .int 2 :: _) rfl rfl ?_
  refine w_t (a := 140) (b := 130) rfl rfl rfl ?_
  refine w_p (pc1 := 141) rfl rfl ?_
  refine w_p (pc1 := 142) (st1 := .int 3 :: _) rfl rfl ?_
  refine w_t (a := 154) (b := 145) rfl rfl rfl ?_
  refine w_p (pc1 := 155) rfl rfl ?_
  refine w_m0 (pc1 := 158) rfl rfl (h_gC rfl rfl rfl rfl) rfl ?_
  refine w_p (pc1 := 160) (st1 := .int 6 :: _) rfl rfl ?_
  refine w_p (pc1 := 161) rfl rfl ?_
  refine w_imul (pc1 := 162) (u := nI (6)) (v := nI (b)) (z := nI (6 * b)) rfl (nK_mul) rfl ?_
  refine w_p (pc1 := 163) rfl rfl ?_
  refine w_iadd (pc1 := 164) (u := nI (6 * b)) (v := nI (6)) (z := nI (6 * b + 6)) rfl (nK_add) rfl ?_
  refine w_p (pc1 := 165) (st1 := .int 4 :: _) rfl rfl ?_
  refine w_isub (pc1 := 166) (u := nI (6 * b + 6)) (v := nI (4)) (z := nI (6 * b + 6 - 4)) rfl (nK_sub (by omega)) rfl ?_
  refine w_m0 (pc1 := 167) rfl rfl (n_ll (e := 6 * b + 6 - 4) rfl rfl rfl (by omega)) rfl ?_
  refine w_r rfl rfl rfl (fun _ _ => rfl) rfl ?_
  exact ⟨rfl, rfl, rfl⟩
set_option maxRecDepth 100000 in
theorem m_290_6n (hb : b < 6) (hf : C.1 78 b = 1) (hw : C.1 80 b = nI w) (h6 : w ≤ 6) (hc : w ≤ 2) : Wd L xs (d + 1) y_290 (0, [(0, .ref 176), (1, .int (nI b)), (2, .int 6)], [], MH C t, sl) (Rt (some (.long (0))) (MH (sI C 76 0 1) t) sl) nX := by
  refine w_p (pc1 := 1) rfl rfl ?_
  refine w_p (pc1 := 2) rfl rfl ?_
  refine w_p (pc1 := 3) (st1 := .long 0 :: _) rfl rfl ?_
  refine w_m0 (pc1 := 6) (st1 := .long 5 :: _) rfl rfl rfl rfl ?_
  refine w_je (pc1 := 9) (vs := [_, .long 0, .long 5]) (rest := []) (st1 := [.int 1]) (m_189t (d := d) (sl := 0) (isIn_t (x := nI b) (m := 0) (n := 5) rfl rfl (by rw [nK_int (by omega)]; omega) (by rw [nK_int (by omega)]; omega))) rfl rfl rfl (fun _ _ => rfl) rfl (by exact cl_s my_189 rfl rfl rfl (Nat.le_of_ble_eq_true rfl) rfl rfl) (by rfl) (Nat.le_of_ble_eq_true rfl) (Nat.le_of_ble_eq_true rfl) rfl (by rfl) ?_
  refine w_f (a := 25) (b := 12) rfl rfl rfl ?_
  refine w_p (pc1 := 13) rfl rfl ?_
  refine w_m0 (pc1 := 16) rfl rfl (h_gC rfl rfl rfl rfl) rfl ?_
  refine w_p (pc1 := 17) rfl rfl ?_
  refine w_m0 (pc1 := 18) (st1 := .int 1 :: _) rfl rfl (n_ble (e := b) rfl rfl (by decide) rfl (by omega) (hf)) rfl ?_
  refine w_f (a := 25) (b := 21) rfl rfl rfl ?_
  refine w_p (pc1 := 22) (st1 := .int 1 :: _) rfl rfl ?_
  refine w_p (pc1 := 26) rfl rfl ?_
  refine w_p (pc1 := 27) (al1 := [(3, .int 1), (0, .ref 176), (1, .int (nI (b))), (2, .int 6)]) rfl rfl ?_
  refine w_p (pc1 := 28) rfl rfl ?_
  refine w_p (pc1 := 29) (st1 := .long 6 :: _) rfl rfl ?_
  refine w_m0 (pc1 := 32) (st1 := .long 4 :: _) rfl rfl rfl rfl ?_
  refine w_m0 (pc1 := 35) (st1 := .long 9 :: _) rfl rfl rfl rfl ?_
  refine w_je (pc1 := 38) (vs := [.long 6, .long 4, .long 9]) (rest := []) (st1 := [.int 1]) (m_189t (d := d) (sl := 0) (isIn_t (x := 6) (m := 4) (n := 9) rfl rfl (by decide) (by decide))) rfl rfl rfl (fun _ _ => rfl) rfl (by exact cl_s my_189 rfl rfl rfl (Nat.le_of_ble_eq_true rfl) rfl rfl) (by rfl) (Nat.le_of_ble_eq_true rfl) (Nat.le_of_ble_eq_true rfl) rfl (by rfl) ?_
  refine w_f (a := 57) (b := 41) rfl rfl rfl ?_
  refine w_p (pc1 := 42) rfl rfl ?_
  refine w_f (a := 61) (b := 45) rfl rfl rfl ?_
  refine w_p (pc1 := 46) rfl rfl ?_
  refine w_p (pc1 := 47) (st1 := .int 4 :: _) rfl rfl ?_
  refine w_p (pc1 := 48) (st1 := .int 2 :: _) rfl rfl ?_
  refine w_p (pc1 := 49) rfl rfl ?_
  refine w_m0 (pc1 := 52) rfl rfl (h_gC rfl rfl rfl rfl) rfl ?_
  refine w_p (pc1 := 53) rfl rfl ?_
  refine w_m0 (pc1 := 54) (st1 := .int (nI (w)) :: _) rfl rfl (n_ile (e := b) rfl rfl rfl (by omega) (hw)) rfl ?_
  refine w_t (a := 61) (b := 57) (bN_ge_t (a := 2) (b := w) (by omega) (by omega) (by omega)) rfl rfl ?_
  refine w_p (pc1 := 62) (st1 := .int 0 :: _) rfl rfl ?_
  refine w_p (pc1 := 64) (al1 := [(4, .int 0), (3, .int 1), (0, .ref 176), (1, .int (nI (b))), (2, .int 6)]) rfl rfl ?_
  refine w_p (pc1 := 65) rfl rfl ?_
  refine w_p (pc1 := 66) rfl rfl ?_
  refine w_f (a := 78) (b := 69) rfl rfl rfl ?_
  refine w_p (pc1 := 71) rfl rfl ?_
  refine w_t (a := 78) (b := 74) rfl rfl rfl ?_
  refine w_p (pc1 := 79) (st1 := .int 0 :: _) rfl rfl ?_
  refine w_p (pc1 := 80) rfl rfl ?_
  refine w_p (pc1 := 81) (st1 := .long 6 :: _) rfl rfl ?_
  refine w_p (pc1 := 82) (st1 := .long 0 :: _) rfl rfl ?_
  refine w_m0 (pc1 := 85) (st1 := .long 9 :: _) rfl rfl rfl rfl ?_
  refine w_je (pc1 := 88) (vs := [.long 6, .long 0, .long 9]) (rest := [.int 0, .ref 176]) (st1 := [.int 1, .int 0, .ref 176]) (m_189t (d := d) (sl := 0) (isIn_t (x := 6) (m := 0) (n := 9) rfl rfl (by decide) (by decide))) rfl rfl rfl (fun _ _ => rfl) rfl (by exact cl_s my_189 rfl rfl rfl (Nat.le_of_ble_eq_true rfl) rfl rfl) (by rfl) (Nat.le_of_ble_eq_true rfl) (Nat.le_of_ble_eq_true rfl) rfl (by rfl) ?_
  refine w_je (pc1 := 91) (vs := [.ref 176, .int 0, .int 1]) (rest := []) (st1 := [.int 0]) (m_190 (d := d) (sl := 0)) rfl rfl rfl (fun _ _ => rfl) rfl (by exact cl_v my_190 rfl rfl rfl (Nat.le_of_ble_eq_true rfl) rfl (MH_obj rfl rfl) rfl (by decide) rfl rfl) (by rfl) (Nat.le_of_ble_eq_true rfl) (Nat.le_of_ble_eq_true rfl) rfl (by rfl) ?_
  refine w_f (a := 96) (b := 94) rfl rfl rfl ?_
  refine w_p (pc1 := 95) (st1 := .long 0 :: _) rfl rfl ?_
  refine w_r rfl rfl rfl (fun _ _ => rfl) rfl ?_
  exact ⟨rfl, rfl, rfl⟩
set_option maxRecDepth 100000 in
theorem m_290_7 (hb : b < 6) (hf : C.1 78 b = 1) (hw : C.1 80 b = nI w) (h6 : w ≤ 6) (hc : 3 < w) : Wd L xs (d + 1) y_290 (0, [(0, .ref 176), (1, .int (nI b)), (2, .int 7)], [], MH C t, sl) (Rt (some (.long (C.2.1 81 (6 * b + 3)))) (MH (sI C 76 0 0) t) sl) nX := by
  refine w_p (pc1 := 1) rfl rfl ?_
  refine w_p (pc1 := 2) rfl rfl ?_
  refine w_p (pc1 := 3) (st1 := .long 0 :: _) rfl rfl ?_
  refine w_m0 (pc1 := 6) (st1 := .long 5 :: _) rfl rfl rfl rfl ?_
  refine w_je (pc1 := 9) (vs := [_, .long 0, .long 5]) (rest := []) (st1 := [.int 1]) (m_189t (d := d) (sl := 0) (isIn_t (x := nI b) (m := 0) (n := 5) rfl rfl (by rw [nK_int (by omega)]; omega) (by rw [nK_int (by omega)]; omega))) rfl rfl rfl (fun _ _ => rfl) rfl (by exact cl_s my_189 rfl rfl rfl (Nat.le_of_ble_eq_true rfl) rfl rfl) (by rfl) (Nat.le_of_ble_eq_true rfl) (Nat.le_of_ble_eq_true rfl) rfl (by rfl) ?_
  refine w_f (a := 25) (b := 12) rfl rfl rfl ?_
  refine w_p (pc1 := 13) rfl rfl ?_
  refine w_m0 (pc1 := 16) rfl rfl (h_gC rfl rfl rfl rfl) rfl ?_
  refine w_p (pc1 := 17) rfl rfl ?_
  refine w_m0 (pc1 := 18) (st1 := .int 1 :: _) rfl rfl (n_ble (e := b) rfl rfl (by decide) rfl (by omega) (hf)) rfl ?_
  refine w_f (a := 25) (b := 21) rfl rfl rfl ?_
  refine w_p (pc1 := 22) (st1 := .int 1 :: _) rfl rfl ?_
  refine w_p (pc1 := 26) rfl rfl ?_
  refine w_p (pc1 := 27) (al1 := [(3, .int 1), (0, .ref 176), (1, .int (nI (b))), (2, .int 7)]) rfl rfl ?_
  refine w_p (pc1 := 28) rfl rfl ?_
  refine w_p (pc1 := 29) (st1 := .long 7 :: _) rfl rfl ?_
  refine w_m0 (pc1 := 32) (st1 := .long 4 :: _) rfl rfl rfl rfl ?_
  refine w_m0 (pc1 := 35) (st1 := .long 9 :: _) rfl rfl rfl rfl ?_
  refine w_je (pc1 := 38) (vs := [.long 7, .long 4, .long 9]) (rest := []) (st1 := [.int 1]) (m_189t (d := d) (sl := 0) (isIn_t (x := 7) (m := 4) (n := 9) rfl rfl (by decide) (by decide))) rfl rfl rfl (fun _ _ => rfl) rfl (by exact cl_s my_189 rfl rfl rfl (Nat.le_of_ble_eq_true rfl) rfl rfl) (by rfl) (Nat.le_of_ble_eq_true rfl) (Nat.le_of_ble_eq_true rfl) rfl (by rfl) ?_
  refine w_f (a := 57) (b := 41) rfl rfl rfl ?_
  refine w_p (pc1 := 42) rfl rfl ?_
  refine w_f (a := 61) (b := 45) rfl rfl rfl ?_
  refine w_p (pc1 := 46) rfl rfl ?_
  refine w_p (pc1 := 47) (st1 := .int 4 :: _) rfl rfl ?_
  refine w_p (pc1 := 48) (st1 := .int 3 :: _) rfl rfl ?_
  refine w_p (pc1 := 49) rfl rfl ?_
  refine w_m0 (pc1 := 52) rfl rfl (h_gC rfl rfl rfl rfl) rfl ?_
  refine w_p (pc1 := 53) rfl rfl ?_
  refine w_m0 (pc1 := 54) (st1 := .int (nI (w)) :: _) rfl rfl (n_ile (e := b) rfl rfl rfl (by omega) (hw)) rfl ?_
  refine w_f (a := 61) (b := 57) (bN_ge_f (a := 3) (b := w) (by omega) (by omega) (by omega)) rfl rfl ?_
  refine w_p (pc1 := 58) (st1 := .int 1 :: _) rfl rfl ?_
  refine w_p (pc1 := 62) rfl rfl ?_
  refine w_p (pc1 := 64) (al1 := [(4, .int 1), (3, .int 1), (0, .ref 176), (1, .int (nI (b))), (2, .int 7)]) rfl rfl ?_
  refine w_p (pc1 := 65) rfl rfl ?_
  refine w_p (pc1 := 66) rfl rfl ?_
  refine w_f (a := 78) (b := 69) rfl rfl rfl ?_
  refine w_p (pc1 := 71) rfl rfl ?_
  refine w_f (a := 78) (b := 74) rfl rfl rfl ?_
  refine w_p (pc1 := 75) (st1 := .int 1 :: _) rfl rfl ?_
  refine w_p (pc1 := 79) rfl rfl ?_
  refine w_p (pc1 := 80) rfl rfl ?_
  refine w_p (pc1 := 81) (st1 := .long 7 :: _) rfl rfl ?_
  refine w_p (pc1 := 82) (st1 := .long 0 :: _) rfl rfl ?_
  refine w_m0 (pc1 := 85) (st1 := .long 9 :: _) rfl rfl rfl rfl ?_
  refine w_je (pc1 := 88) (vs := [.long 7, .long 0, .long 9]) (rest := [.int 1, .ref 176]) (st1 := [.int 1, .int 1, .ref 176]) (m_189t (d := d) (sl := 0) (isIn_t (x := 7) (m := 0) (n := 9) rfl rfl (by decide) (by decide))) rfl rfl rfl (fun _ _ => rfl) rfl (by exact cl_s my_189 rfl rfl rfl (Nat.le_of_ble_eq_true rfl) rfl rfl) (by rfl) (Nat.le_of_ble_eq_true rfl) (Nat.le_of_ble_eq_true rfl) rfl (by rfl) ?_
  refine w_je (pc1 := 91) (vs := [.ref 176, .int 1, .int 1]) (rest := []) (st1 := [.int 1]) (m_190 (d := d) (sl := 0)) rfl rfl rfl (fun _ _ => rfl) rfl (by exact cl_v my_190 rfl rfl rfl (Nat.le_of_ble_eq_true rfl) rfl (MH_obj rfl rfl) rfl (by decide) rfl rfl) (by rfl) (Nat.le_of_ble_eq_true rfl) (Nat.le_of_ble_eq_true rfl) rfl (by rfl) ?_
  refine w_t (a := 96) (b := 94) rfl rfl rfl ?_
  refine w_p (pc1 := 97) rfl rfl ?_
  refine w_t (a := 110) (b := 100) rfl rfl rfl ?_
  refine w_p (pc1 := 111) rfl rfl ?_
  refine w_p (pc1 := 112) (st1 := .int 1 :: _) rfl rfl ?_
  refine w_t (a := 125) (b := 115) rfl rfl rfl ?_
  refine w_p (pc1 := 126) rfl rfl ?_
  refine w_p (pc1 := 127) (st1 := .int 2 :: _) rfl rfl ?_
  refine w_t (a := 140) (b := 130) rfl rfl rfl ?_
  refine w_p (pc1 := 141) rfl rfl ?_
  refine w_p (pc1 := 142) (st1 := .int 3 :: _) rfl rfl ?_
  refine w_t (a := 154) (b := 145) rfl rfl rfl ?_
  refine w_p (pc1 := 155) rfl rfl ?_
  refine w_m0 (pc1 := 158) rfl rfl (h_gC rfl rfl rfl rfl) rfl ?_
  refine w_p (pc1 := 160) (st1 := .int 6 :: _) rfl rfl ?_
  refine w_p (pc1 := 161) rfl rfl ?_
  refine w_imul (pc1 := 162) (u := nI (6)) (v := nI (b)) (z := nI (6 * b)) rfl (nK_mul) rfl ?_
  refine w_p (pc1 := 163) rfl rfl ?_
  refine w_iadd (pc1 := 164) (u := nI (6 * b)) (v := nI (7)) (z := nI (6 * b + 7)) rfl (nK_add) rfl ?_
  refine w_p (pc1 := 165) (st1 := .int 4 :: _) rfl rfl ?_
  refine w_isub (pc1 := 166) (u := nI (6 * b + 7)) (v := nI (4)) (z := nI (6 * b + 7 - 4)) rfl (nK_sub (by omega)) rfl ?_
  refine w_m0 (pc1 := 167) rfl rfl (n_ll (e := 6 * b + 7 - 4) rfl rfl rfl (by omega)) rfl ?_
  refine w_r rfl rfl rfl (fun _ _ => rfl) rfl ?_
  exact ⟨rfl, rfl, rfl⟩
set_option maxRecDepth 100000 in
theorem m_290_7n (hb : b < 6) (hf : C.1 78 b = 1) (hw : C.1 80 b = nI w) (h6 : w ≤ 6) (hc : w ≤ 3) : Wd L xs (d + 1) y_290 (0, [(0, .ref 176), (1, .int (nI b)), (2, .int 7)], [], MH C t, sl) (Rt (some (.long (0))) (MH (sI C 76 0 1) t) sl) nX := by
  refine w_p (pc1 := 1) rfl rfl ?_
  refine w_p (pc1 := 2) rfl rfl ?_
  refine w_p (pc1 := 3) (st1 := .long 0 :: _) rfl rfl ?_
  refine w_m0 (pc1 := 6) (st1 := .long 5 :: _) rfl rfl rfl rfl ?_
  refine w_je (pc1 := 9) (vs := [_, .long 0, .long 5]) (rest := []) (st1 := [.int 1]) (m_189t (d := d) (sl := 0) (isIn_t (x := nI b) (m := 0) (n := 5) rfl rfl (by rw [nK_int (by omega)]; omega) (by rw [nK_int (by omega)]; omega))) rfl rfl rfl (fun _ _ => rfl) rfl (by exact cl_s my_189 rfl rfl rfl (Nat.le_of_ble_eq_true rfl) rfl rfl) (by rfl) (Nat.le_of_ble_eq_true rfl) (Nat.le_of_ble_eq_true rfl) rfl (by rfl) ?_
  refine w_f (a := 25) (b := 12) rfl rfl rfl ?_
  refine w_p (pc1 := 13) rfl rfl ?_
  refine w_m0 (pc1 := 16) rfl rfl (h_gC rfl rfl rfl rfl) rfl ?_
  refine w_p (pc1 := 17) rfl rfl ?_
  refine w_m0 (pc1 := 18) (st1 := .int 1 :: _) rfl rfl (n_ble (e := b) rfl rfl (by decide) rfl (by omega) (hf)) rfl ?_
  refine w_f (a := 25) (b := 21) rfl rfl rfl ?_
  refine w_p (pc1 := 22) (st1 := .int 1 :: _) rfl rfl ?_
  refine w_p (pc1 := 26) rfl rfl ?_
  refine w_p (pc1 := 27) (al1 := [(3, .int 1), (0, .ref 176), (1, .int (nI (b))), (2, .int 7)]) rfl rfl ?_
  refine w_p (pc1 := 28) rfl rfl ?_
  refine w_p (pc1 := 29) (st1 := .long 7 :: _) rfl rfl ?_
  refine w_m0 (pc1 := 32) (st1 := .long 4 :: _) rfl rfl rfl rfl ?_
  refine w_m0 (pc1 := 35) (st1 := .long 9 :: _) rfl rfl rfl rfl ?_
  refine w_je (pc1 := 38) (vs := [.long 7, .long 4, .long 9]) (rest := []) (st1 := [.int 1]) (m_189t (d := d) (sl := 0) (isIn_t (x := 7) (m := 4) (n := 9) rfl rfl (by decide) (by decide))) rfl rfl rfl (fun _ _ => rfl) rfl (by exact cl_s my_189 rfl rfl rfl (Nat.le_of_ble_eq_true rfl) rfl rfl) (by rfl) (Nat.le_of_ble_eq_true rfl) (Nat.le_of_ble_eq_true rfl) rfl (by rfl) ?_
  refine w_f (a := 57) (b := 41) rfl rfl rfl ?_
  refine w_p (pc1 := 42) rfl rfl ?_
  refine w_f (a := 61) (b := 45) rfl rfl rfl ?_
  refine w_p (pc1 := 46) rfl rfl ?_
  refine w_p (pc1 := 47) (st1 := .int 4 :: _) rfl rfl ?_
  refine w_p (pc1 := 48) (st1 := .int 3 :: _) rfl rfl ?_
  refine w_p (pc1 := 49) rfl rfl ?_
  refine w_m0 (pc1 := 52) rfl rfl (h_gC rfl rfl rfl rfl) rfl ?_
  refine w_p (pc1 := 53) rfl rfl ?_
  refine w_m0 (pc1 := 54) (st1 := .int (nI (w)) :: _) rfl rfl (n_ile (e := b) rfl rfl rfl (by omega) (hw)) rfl ?_
  refine w_t (a := 61) (b := 57) (bN_ge_t (a := 3) (b := w) (by omega) (by omega) (by omega)) rfl rfl ?_
  refine w_p (pc1 := 62) (st1 := .int 0 :: _) rfl rfl ?_
  refine w_p (pc1 := 64) (al1 := [(4, .int 0), (3, .int 1), (0, .ref 176), (1, .int (nI (b))), (2, .int 7)]) rfl rfl ?_
  refine w_p (pc1 := 65) rfl rfl ?_
  refine w_p (pc1 := 66) rfl rfl ?_
  refine w_f (a := 78) (b := 69) rfl rfl rfl ?_
  refine w_p (pc1 := 71) rfl rfl ?_
  refine w_t (a := 78) (b := 74) rfl rfl rfl ?_
  refine w_p (pc1 := 79) (st1 := .int 0 :: _) rfl rfl ?_
  refine w_p (pc1 := 80) rfl rfl ?_
  refine w_p (pc1 := 81) (st1 := .long 7 :: _) rfl rfl ?_
  refine w_p (pc1 := 82) (st1 := .long 0 :: _) rfl rfl ?_
  refine w_m0 (pc1 := 85) (st1 := .long 9 :: _) rfl rfl rfl rfl ?_
  refine w_je (pc1 := 88) (vs := [.long 7, .long 0, .long 9]) (rest := [.int 0, .ref 176]) (st1 := [.int 1, .int 0, .ref 176]) (m_189t (d := d) (sl := 0) (isIn_t (x := 7) (m := 0) (n := 9) rfl rfl (by decide) (by decide))) rfl rfl rfl (fun _ _ => rfl) rfl (by exact cl_s my_189 rfl rfl rfl (Nat.le_of_ble_eq_true rfl) rfl rfl) (by rfl) (Nat.le_of_ble_eq_true rfl) (Nat.le_of_ble_eq_true rfl) rfl (by rfl) ?_
  refine w_je (pc1 := 91) (vs := [.ref 176, .int 0, .int 1]) (rest := []) (st1 := [.int 0]) (m_190 (d := d) (sl := 0)) rfl rfl rfl (fun _ _ => rfl) rfl (by exact cl_v my_190 rfl rfl rfl (Nat.le_of_ble_eq_true rfl) rfl (MH_obj rfl rfl) rfl (by decide) rfl rfl) (by rfl) (Nat.le_of_ble_eq_true rfl) (Nat.le_of_ble_eq_true rfl) rfl (by rfl) ?_
  refine w_f (a := 96) (b := 94) rfl rfl rfl ?_
  refine w_p (pc1 := 95) (st1 := .long 0 :: _) rfl rfl ?_
  refine w_r rfl rfl rfl (fun _ _ => rfl) rfl ?_
  exact ⟨rfl, rfl, rfl⟩
set_option maxRecDepth 100000 in
theorem m_290_8 (hb : b < 6) (hf : C.1 78 b = 1) (hw : C.1 80 b = nI w) (h6 : w ≤ 6) (hc : 4 < w) : Wd L xs (d + 1) y_290 (0, [(0, .ref 176), (1, .int (nI b)), (2, .int 8)], [], MH C t, sl) (Rt (some (.long (C.2.1 81 (6 * b + 4)))) (MH (sI C 76 0 0) t) sl) nX := by
  refine w_p (pc1 := 1) rfl rfl ?_
  refine w_p (pc1 := 2) rfl rfl ?_
  refine w_p (pc1 := 3) (st1 := .long 0 :: _) rfl rfl ?_
  refine w_m0 (pc1 := 6) (st1 := .long 5 :: _) rfl rfl rfl rfl ?_
  refine w_je (pc1 := 9) (vs := [_, .long 0, .long 5]) (rest := []) (st1 := [.int 1]) (m_189t (d := d) (sl := 0) (isIn_t (x := nI b) (m := 0) (n := 5) rfl rfl (by rw [nK_int (by omega)]; omega) (by rw [nK_int (by omega)]; omega))) rfl rfl rfl (fun _ _ => rfl) rfl (by exact cl_s my_189 rfl rfl rfl (Nat.le_of_ble_eq_true rfl) rfl rfl) (by rfl) (Nat.le_of_ble_eq_true rfl) (Nat.le_of_ble_eq_true rfl) rfl (by rfl) ?_
  refine w_f (a := 25) (b := 12) rfl rfl rfl ?_
  refine w_p (pc1 := 13) rfl rfl ?_
  refine w_m0 (pc1 := 16) rfl rfl (h_gC rfl rfl rfl rfl) rfl ?_
  refine w_p (pc1 := 17) rfl rfl ?_
  refine w_m0 (pc1 := 18) (st1 := .int 1 :: _) rfl rfl (n_ble (e := b) rfl rfl (by decide) rfl (by omega) (hf)) rfl ?_
  refine w_f (a := 25) (b := 21) rfl rfl rfl ?_
  refine w_p (pc1 := 22) (st1 := .int 1 :: _) rfl rfl ?_
  refine w_p (pc1 := 26) rfl rfl ?_
  refine w_p (pc1 := 27) (al1 := [(3, .int 1), (0, .ref 176), (1, .int (nI (b))), (2, .int 8)]) rfl rfl ?_
  refine w_p (pc1 := 28) rfl rfl ?_
  refine w_p (pc1 := 29) (st1 := .long 8 :: _) rfl rfl ?_
  refine w_m0 (pc1 := 32) (st1 := .long 4 :: _) rfl rfl rfl rfl ?_
  refine w_m0 (pc1 := 35) (st1 := .long 9 :: _) rfl rfl rfl rfl ?_
  refine w_je (pc1 := 38) (vs := [.long 8, .long 4, .long 9]) (rest := []) (st1 := [.int 1]) (m_189t (d := d) (sl := 0) (isIn_t (x := 8) (m := 4) (n := 9) rfl rfl (by decide) (by decide))) rfl rfl rfl (fun _ _ => rfl) rfl (by exact cl_s my_189 rfl rfl rfl (Nat.le_of_ble_eq_true rfl) rfl rfl) (by rfl) (Nat.le_of_ble_eq_true rfl) (Nat.le_of_ble_eq_true rfl) rfl (by rfl) ?_
  refine w_f (a := 57) (b := 41) rfl rfl rfl ?_
  refine w_p (pc1 := 42) rfl rfl ?_
  refine w_f (a := 61) (b := 45) rfl rfl rfl ?_
  refine w_p (pc1 := 46) rfl rfl ?_
  refine w_p (pc1 := 47) (st1 := .int 4 :: _) rfl rfl ?_
  refine w_p (pc1 := 48) (st1 := .int 4 :: _) rfl rfl ?_
  refine w_p (pc1 := 49) rfl rfl ?_
  refine w_m0 (pc1 := 52) rfl rfl (h_gC rfl rfl rfl rfl) rfl ?_
  refine w_p (pc1 := 53) rfl rfl ?_
  refine w_m0 (pc1 := 54) (st1 := .int (nI (w)) :: _) rfl rfl (n_ile (e := b) rfl rfl rfl (by omega) (hw)) rfl ?_
  refine w_f (a := 61) (b := 57) (bN_ge_f (a := 4) (b := w) (by omega) (by omega) (by omega)) rfl rfl ?_
  refine w_p (pc1 := 58) (st1 := .int 1 :: _) rfl rfl ?_
  refine w_p (pc1 := 62) rfl rfl ?_
  refine w_p (pc1 := 64) (al1 := [(4, .int 1), (3, .int 1), (0, .ref 176), (1, .int (nI (b))), (2, .int 8)]) rfl rfl ?_
  refine w_p (pc1 := 65) rfl rfl ?_
  refine w_p (pc1 := 66) rfl rfl ?_
  refine w_f (a := 78) (b := 69) rfl rfl rfl ?_
  refine w_p (pc1 := 71) rfl rfl ?_
  refine w_f (a := 78) (b := 74) rfl rfl rfl ?_
  refine w_p (pc1 := 75) (st1 := .int 1 :: _) rfl rfl ?_
  refine w_p (pc1 := 79) rfl rfl ?_
  refine w_p (pc1 := 80) rfl rfl ?_
  refine w_p (pc1 := 81) (st1 := .long 8 :: _) rfl rfl ?_
  refine w_p (pc1 := 82) (st1 := .long 0 :: _) rfl rfl ?_
  refine w_m0 (pc1 := 85) (st1 := .long 9 :: _) rfl rfl rfl rfl ?_
  refine w_je (pc1 := 88) (vs := [.long 8, .long 0, .long 9]) (rest := [.int 1, .ref 176]) (st1 := [.int 1, .int 1, .ref 176]) (m_189t (d := d) (sl := 0) (isIn_t (x := 8) (m := 0) (n := 9) rfl rfl (by decide) (by decide))) rfl rfl rfl (fun _ _ => rfl) rfl (by exact cl_s my_189 rfl rfl rfl (Nat.le_of_ble_eq_true rfl) rfl rfl) (by rfl) (Nat.le_of_ble_eq_true rfl) (Nat.le_of_ble_eq_true rfl) rfl (by rfl) ?_
  refine w_je (pc1 := 91) (vs := [.ref 176, .int 1, .int 1]) (rest := []) (st1 := [.int 1]) (m_190 (d := d) (sl := 0)) rfl rfl rfl (fun _ _ => rfl) rfl (by exact cl_v my_190 rfl rfl rfl (Nat.le_of_ble_eq_true rfl) rfl (MH_obj rfl rfl) rfl (by decide) rfl rfl) (by rfl) (Nat.le_of_ble_eq_true rfl) (Nat.le_of_ble_eq_true rfl) rfl (by rfl) ?_
  refine w_t (a := 96) (b := 94) rfl rfl rfl ?_
  refine w_p (pc1 := 97) rfl rfl ?_
  refine w_t (a := 110) (b := 100) rfl rfl rfl ?_
  refine w_p (pc1 := 111) rfl rfl ?_
  refine w_p (pc1 := 112) (st1 := .int 1 :: _) rfl rfl ?_
  refine w_t (a := 125) (b := 115) rfl rfl rfl ?_
  refine w_p (pc1 := 126) rfl rfl ?_
  refine w_p (pc1 := 127) (st1 := .int 2 :: _) rfl rfl ?_
  refine w_t (a := 140) (b := 130) rfl rfl rfl ?_
  refine w_p (pc1 := 141) rfl rfl ?_
  refine w_p (pc1 := 142) (st1 := .int 3 :: _) rfl rfl ?_
  refine w_t (a := 154) (b := 145) rfl rfl rfl ?_
  refine w_p (pc1 := 155) rfl rfl ?_
  refine w_m0 (pc1 := 158) rfl rfl (h_gC rfl rfl rfl rfl) rfl ?_
  refine w_p (pc1 := 160) (st1 := .int 6 :: _) rfl rfl ?_
  refine w_p (pc1 := 161) rfl rfl ?_
  refine w_imul (pc1 := 162) (u := nI (6)) (v := nI (b)) (z := nI (6 * b)) rfl (nK_mul) rfl ?_
  refine w_p (pc1 := 163) rfl rfl ?_
  refine w_iadd (pc1 := 164) (u := nI (6 * b)) (v := nI (8)) (z := nI (6 * b + 8)) rfl (nK_add) rfl ?_
  refine w_p (pc1 := 165) (st1 := .int 4 :: _) rfl rfl ?_
  refine w_isub (pc1 := 166) (u := nI (6 * b + 8)) (v := nI (4)) (z := nI (6 * b + 8 - 4)) rfl (nK_sub (by omega)) rfl ?_
  refine w_m0 (pc1 := 167) rfl rfl (n_ll (e := 6 * b + 8 - 4) rfl rfl rfl (by omega)) rfl ?_
  refine w_r rfl rfl rfl (fun _ _ => rfl) rfl ?_
  exact ⟨rfl, rfl, rfl⟩
set_option maxRecDepth 100000 in
theorem m_290_8n (hb : b < 6) (hf : C.1 78 b = 1) (hw : C.1 80 b = nI w) (h6 : w ≤ 6) (hc : w ≤ 4) : Wd L xs (d + 1) y_290 (0, [(0, .ref 176), (1, .int (nI b)), (2, .int 8)], [], MH C t, sl) (Rt (some (.long (0))) (MH (sI C 76 0 1) t) sl) nX := by
  refine w_p (pc1 := 1) rfl rfl ?_
  refine w_p (pc1 := 2) rfl rfl ?_
  refine w_p (pc1 := 3) (st1 := .long 0 :: _) rfl rfl ?_
  refine w_m0 (pc1 := 6) (st1 := .long 5 :: _) rfl rfl rfl rfl ?_
  refine w_je (pc1 := 9) (vs := [_, .long 0, .long 5]) (rest := []) (st1 := [.int 1]) (m_189t (d := d) (sl := 0) (isIn_t (x := nI b) (m := 0) (n := 5) rfl rfl (by rw [nK_int (by omega)]; omega) (by rw [nK_int (by omega)]; omega))) rfl rfl rfl (fun _ _ => rfl) rfl (by exact cl_s my_189 rfl rfl rfl (Nat.le_of_ble_eq_true rfl) rfl rfl) (by rfl) (Nat.le_of_ble_eq_true rfl) (Nat.le_of_ble_eq_true rfl) rfl (by rfl) ?_
  refine w_f (a := 25) (b := 12) rfl rfl rfl ?_
  refine w_p (pc1 := 13) rfl rfl ?_
  refine w_m0 (pc1 := 16) rfl rfl (h_gC rfl rfl rfl rfl) rfl ?_
  refine w_p (pc1 := 17) rfl rfl ?_
  refine w_m0 (pc1 := 18) (st1 := .int 1 :: _) rfl rfl (n_ble (e := b) rfl rfl (by decide) rfl (by omega) (hf)) rfl ?_
  refine w_f (a := 25) (b := 21) rfl rfl rfl ?_
  refine w_p (pc1 := 22) (st1 := .int 1 :: _) rfl rfl ?_
  refine w_p (pc1 := 26) rfl rfl ?_
  refine w_p (pc1 := 27) (al1 := [(3, .int 1), (0, .ref 176), (1, .int (nI (b))), (2, .int 8)]) rfl rfl ?_
  refine w_p (pc1 := 28) rfl rfl ?_
  refine w_p (pc1 := 29) (st1 := .long 8 :: _) rfl rfl ?_
  refine w_m0 (pc1 := 32) (st1 := .long 4 :: _) rfl rfl rfl rfl ?_
  refine w_m0 (pc1 := 35) (st1 := .long 9 :: _) rfl rfl rfl rfl ?_
  refine w_je (pc1 := 38) (vs := [.long 8, .long 4, .long 9]) (rest := []) (st1 := [.int 1]) (m_189t (d := d) (sl := 0) (isIn_t (x := 8) (m := 4) (n := 9) rfl rfl (by decide) (by decide))) rfl rfl rfl (fun _ _ => rfl) rfl (by exact cl_s my_189 rfl rfl rfl (Nat.le_of_ble_eq_true rfl) rfl rfl) (by rfl) (Nat.le_of_ble_eq_true rfl) (Nat.le_of_ble_eq_true rfl) rfl (by rfl) ?_
  refine w_f (a := 57) (b := 41) rfl rfl rfl ?_
  refine w_p (pc1 := 42) rfl rfl ?_
  refine w_f (a := 61) (b := 45) rfl rfl rfl ?_
  refine w_p (pc1 := 46) rfl rfl ?_
  refine w_p (pc1 := 47) (st1 := .int 4 :: _) rfl rfl ?_
  refine w_p (pc1 := 48) (st1 := .int 4 :: _) rfl rfl ?_
  refine w_p (pc1 := 49) rfl rfl ?_
  refine w_m0 (pc1 := 52) rfl rfl (h_gC rfl rfl rfl rfl) rfl ?_
  refine w_p (pc1 := 53) rfl rfl ?_
  refine w_m0 (pc1 := 54) (st1 := .int (nI (w)) :: _) rfl rfl (n_ile (e := b) rfl rfl rfl (by omega) (hw)) rfl ?_
  refine w_t (a := 61) (b := 57) (bN_ge_t (a := 4) (b := w) (by omega) (by omega) (by omega)) rfl rfl ?_
  refine w_p (pc1 := 62) (st1 := .int 0 :: _) rfl rfl ?_
  refine w_p (pc1 := 64) (al1 := [(4, .int 0), (3, .int 1), (0, .ref 176), (1, .int (nI (b))), (2, .int 8)]) rfl rfl ?_
  refine w_p (pc1 := 65) rfl rfl ?_
  refine w_p (pc1 := 66) rfl rfl ?_
  refine w_f (a := 78) (b := 69) rfl rfl rfl ?_
  refine w_p (pc1 := 71) rfl rfl ?_
  refine w_t (a := 78) (b := 74) rfl rfl rfl ?_
  refine w_p (pc1 := 79) (st1 := .int 0 :: _) rfl rfl ?_
  refine w_p (pc1 := 80) rfl rfl ?_
  refine w_p (pc1 := 81) (st1 := .long 8 :: _) rfl rfl ?_
  refine w_p (pc1 := 82) (st1 := .long 0 :: _) rfl rfl ?_
  refine w_m0 (pc1 := 85) (st1 := .long 9 :: _) rfl rfl rfl rfl ?_
  refine w_je (pc1 := 88) (vs := [.long 8, .long 0, .long 9]) (rest := [.int 0, .ref 176]) (st1 := [.int 1, .int 0, .ref 176]) (m_189t (d := d) (sl := 0) (isIn_t (x := 8) (m := 0) (n := 9) rfl rfl (by decide) (by decide))) rfl rfl rfl (fun _ _ => rfl) rfl (by exact cl_s my_189 rfl rfl rfl (Nat.le_of_ble_eq_true rfl) rfl rfl) (by rfl) (Nat.le_of_ble_eq_true rfl) (Nat.le_of_ble_eq_true rfl) rfl (by rfl) ?_
  refine w_je (pc1 := 91) (vs := [.ref 176, .int 0, .int 1]) (rest := []) (st1 := [.int 0]) (m_190 (d := d) (sl := 0)) rfl rfl rfl (fun _ _ => rfl) rfl (by exact cl_v my_190 rfl rfl rfl (Nat.le_of_ble_eq_true rfl) rfl (MH_obj rfl rfl) rfl (by decide) rfl rfl) (by rfl) (Nat.le_of_ble_eq_true rfl) (Nat.le_of_ble_eq_true rfl) rfl (by rfl) ?_
  refine w_f (a := 96) (b := 94) rfl rfl rfl ?_
  refine w_p (pc1 := 95) (st1 := .long 0 :: _) rfl rfl ?_
  refine w_r rfl rfl rfl (fun _ _ => rfl) rfl ?_
  exact ⟨rfl, rfl, rfl⟩
set_option maxRecDepth 100000 in
theorem m_290_9 (hb : b < 6) (hf : C.1 78 b = 1) (hw : C.1 80 b = nI w) (h6 : w ≤ 6) (hc : 5 < w) : Wd L xs (d + 1) y_290 (0, [(0, .ref 176), (1, .int (nI b)), (2, .int 9)], [], MH C t, sl) (Rt (some (.long (C.2.1 81 (6 * b + 5)))) (MH (sI C 76 0 0) t) sl) nX := by
  refine w_p (pc1 := 1) rfl rfl ?_
  refine w_p (pc1 := 2) rfl rfl ?_
  refine w_p (pc1 := 3) (st1 := .long 0 :: _) rfl rfl ?_
  refine w_m0 (pc1 := 6) (st1 := .long 5 :: _) rfl rfl rfl rfl ?_
  refine w_je (pc1 := 9) (vs := [_, .long 0, .long 5]) (rest := []) (st1 := [.int 1]) (m_189t (d := d) (sl := 0) (isIn_t (x := nI b) (m := 0) (n := 5) rfl rfl (by rw [nK_int (by omega)]; omega) (by rw [nK_int (by omega)]; omega))) rfl rfl rfl (fun _ _ => rfl) rfl (by exact cl_s my_189 rfl rfl rfl (Nat.le_of_ble_eq_true rfl) rfl rfl) (by rfl) (Nat.le_of_ble_eq_true rfl) (Nat.le_of_ble_eq_true rfl) rfl (by rfl) ?_
  refine w_f (a := 25) (b := 12) rfl rfl rfl ?_
  refine w_p (pc1 := 13) rfl rfl ?_
  refine w_m0 (pc1 := 16) rfl rfl (h_gC rfl rfl rfl rfl) rfl ?_
  refine w_p (pc1 := 17) rfl rfl ?_
  refine w_m0 (pc1 := 18) (st1 := .int 1 :: _) rfl rfl (n_ble (e := b) rfl rfl (by decide) rfl (by omega) (hf)) rfl ?_
  refine w_f (a := 25) (b := 21) rfl rfl rfl ?_
  refine w_p (pc1 := 22) (st1 := .int 1 :: _) rfl rfl ?_
  refine w_p (pc1 := 26) rfl rfl ?_
  refine w_p (pc1 := 27) (al1 := [(3, .int 1), (0, .ref 176), (1, .int (nI (b))), (2, .int 9)]) rfl rfl ?_
  refine w_p (pc1 := 28) rfl rfl ?_
  refine w_p (pc1 := 29) (st1 := .long 9 :: _) rfl rfl ?_
  refine w_m0 (pc1 := 32) (st1 := .long 4 :: _) rfl rfl rfl rfl ?_
  refine w_m0 (pc1 := 35) (st1 := .long 9 :: _) rfl rfl rfl rfl ?_
  refine w_je (pc1 := 38) (vs := [.long 9, .long 4, .long 9]) (rest := []) (st1 := [.int 1]) (m_189t (d := d) (sl := 0) (isIn_t (x := 9) (m := 4) (n := 9) rfl rfl (by decide) (by decide))) rfl rfl rfl (fun _ _ => rfl) rfl (by exact cl_s my_189 rfl rfl rfl (Nat.le_of_ble_eq_true rfl) rfl rfl) (by rfl) (Nat.le_of_ble_eq_true rfl) (Nat.le_of_ble_eq_true rfl) rfl (by rfl) ?_
  refine w_f (a := 57) (b := 41) rfl rfl rfl ?_
  refine w_p (pc1 := 42) rfl rfl ?_
  refine w_f (a := 61) (b := 45) rfl rfl rfl ?_
  refine w_p (pc1 := 46) rfl rfl ?_
  refine w_p (pc1 := 47) (st1 := .int 4 :: _) rfl rfl ?_
  refine w_p (pc1 := 48) (st1 := .int 5 :: _) rfl rfl ?_
  refine w_p (pc1 := 49) rfl rfl ?_
  refine w_m0 (pc1 := 52) rfl rfl (h_gC rfl rfl rfl rfl) rfl ?_
  refine w_p (pc1 := 53) rfl rfl ?_
  refine w_m0 (pc1 := 54) (st1 := .int (nI (w)) :: _) rfl rfl (n_ile (e := b) rfl rfl rfl (by omega) (hw)) rfl ?_
  refine w_f (a := 61) (b := 57) (bN_ge_f (a := 5) (b := w) (by omega) (by omega) (by omega)) rfl rfl ?_
  refine w_p (pc1 := 58) (st1 := .int 1 :: _) rfl rfl ?_
  refine w_p (pc1 := 62) rfl rfl ?_
  refine w_p (pc1 := 64) (al1 := [(4, .int 1), (3, .int 1), (0, .ref 176), (1, .int (nI (b))), (2, .int 9)]) rfl rfl ?_
  refine w_p (pc1 := 65) rfl rfl ?_
  refine w_p (pc1 := 66) rfl rfl ?_
  refine w_f (a := 78) (b := 69) rfl rfl rfl ?_
  refine w_p (pc1 := 71) rfl rfl ?_
  refine w_f (a := 78) (b := 74) rfl rfl rfl ?_
  refine w_p (pc1 := 75) (st1 := .int 1 :: _) rfl rfl ?_
  refine w_p (pc1 := 79) rfl rfl ?_
  refine w_p (pc1 := 80) rfl rfl ?_
  refine w_p (pc1 := 81) (st1 := .long 9 :: _) rfl rfl ?_
  refine w_p (pc1 := 82) (st1 := .long 0 :: _) rfl rfl ?_
  refine w_m0 (pc1 := 85) (st1 := .long 9 :: _) rfl rfl rfl rfl ?_
  refine w_je (pc1 := 88) (vs := [.long 9, .long 0, .long 9]) (rest := [.int 1, .ref 176]) (st1 := [.int 1, .int 1, .ref 176]) (m_189t (d := d) (sl := 0) (isIn_t (x := 9) (m := 0) (n := 9) rfl rfl (by decide) (by decide))) rfl rfl rfl (fun _ _ => rfl) rfl (by exact cl_s my_189 rfl rfl rfl (Nat.le_of_ble_eq_true rfl) rfl rfl) (by rfl) (Nat.le_of_ble_eq_true rfl) (Nat.le_of_ble_eq_true rfl) rfl (by rfl) ?_
  refine w_je (pc1 := 91) (vs := [.ref 176, .int 1, .int 1]) (rest := []) (st1 := [.int 1]) (m_190 (d := d) (sl := 0)) rfl rfl rfl (fun _ _ => rfl) rfl (by exact cl_v my_190 rfl rfl rfl (Nat.le_of_ble_eq_true rfl) rfl (MH_obj rfl rfl) rfl (by decide) rfl rfl) (by rfl) (Nat.le_of_ble_eq_true rfl) (Nat.le_of_ble_eq_true rfl) rfl (by rfl) ?_
  refine w_t (a := 96) (b := 94) rfl rfl rfl ?_
  refine w_p (pc1 := 97) rfl rfl ?_
  refine w_t (a := 110) (b := 100) rfl rfl rfl ?_
  refine w_p (pc1 := 111) rfl rfl ?_
  refine w_p (pc1 := 112) (st1 := .int 1 :: _) rfl rfl ?_
  refine w_t (a := 125) (b := 115) rfl rfl rfl ?_
  refine w_p (pc1 := 126) rfl rfl ?_
  refine w_p (pc1 := 127) (st1 := .int 2 :: _) rfl rfl ?_
  refine w_t (a := 140) (b := 130) rfl rfl rfl ?_
  refine w_p (pc1 := 141) rfl rfl ?_
  refine w_p (pc1 := 142) (st1 := .int 3 :: _) rfl rfl ?_
  refine w_t (a := 154) (b := 145) rfl rfl rfl ?_
  refine w_p (pc1 := 155) rfl rfl ?_
  refine w_m0 (pc1 := 158) rfl rfl (h_gC rfl rfl rfl rfl) rfl ?_
  refine w_p (pc1 := 160) (st1 := .int 6 :: _) rfl rfl ?_
  refine w_p (pc1 := 161) rfl rfl ?_
  refine w_imul (pc1 := 162) (u := nI (6)) (v := nI (b)) (z := nI (6 * b)) rfl (nK_mul) rfl ?_
  refine w_p (pc1 := 163) rfl rfl ?_
  refine w_iadd (pc1 := 164) (u := nI (6 * b)) (v := nI (9)) (z := nI (6 * b + 9)) rfl (nK_add) rfl ?_
  refine w_p (pc1 := 165) (st1 := .int 4 :: _) rfl rfl ?_
  refine w_isub (pc1 := 166) (u := nI (6 * b + 9)) (v := nI (4)) (z := nI (6 * b + 9 - 4)) rfl (nK_sub (by omega)) rfl ?_
  refine w_m0 (pc1 := 167) rfl rfl (n_ll (e := 6 * b + 9 - 4) rfl rfl rfl (by omega)) rfl ?_
  refine w_r rfl rfl rfl (fun _ _ => rfl) rfl ?_
  exact ⟨rfl, rfl, rfl⟩
set_option maxRecDepth 100000 in
theorem m_290_9n (hb : b < 6) (hf : C.1 78 b = 1) (hw : C.1 80 b = nI w) (h6 : w ≤ 6) (hc : w ≤ 5) : Wd L xs (d + 1) y_290 (0, [(0, .ref 176), (1, .int (nI b)), (2, .int 9)], [], MH C t, sl) (Rt (some (.long (0))) (MH (sI C 76 0 1) t) sl) nX := by
  refine w_p (pc1 := 1) rfl rfl ?_
  refine w_p (pc1 := 2) rfl rfl ?_
  refine w_p (pc1 := 3) (st1 := .long 0 :: _) rfl rfl ?_
  refine w_m0 (pc1 := 6) (st1 := .long 5 :: _) rfl rfl rfl rfl ?_
  refine w_je (pc1 := 9) (vs := [_, .long 0, .long 5]) (rest := []) (st1 := [.int 1]) (m_189t (d := d) (sl := 0) (isIn_t (x := nI b) (m := 0) (n := 5) rfl rfl (by rw [nK_int (by omega)]; omega) (by rw [nK_int (by omega)]; omega))) rfl rfl rfl (fun _ _ => rfl) rfl (by exact cl_s my_189 rfl rfl rfl (Nat.le_of_ble_eq_true rfl) rfl rfl) (by rfl) (Nat.le_of_ble_eq_true rfl) (Nat.le_of_ble_eq_true rfl) rfl (by rfl) ?_
  refine w_f (a := 25) (b := 12) rfl rfl rfl ?_
  refine w_p (pc1 := 13) rfl rfl ?_
  refine w_m0 (pc1 := 16) rfl rfl (h_gC rfl rfl rfl rfl) rfl ?_
  refine w_p (pc1 := 17) rfl rfl ?_
  refine w_m0 (pc1 := 18) (st1 := .int 1 :: _) rfl rfl (n_ble (e := b) rfl rfl (by decide) rfl (by omega) (hf)) rfl ?_
  refine w_f (a := 25) (b := 21) rfl rfl rfl ?_
  refine w_p (pc1 := 22) (st1 := .int 1 :: _) rfl rfl ?_
  refine w_p (pc1 := 26) rfl rfl ?_
  refine w_p (pc1 := 27) (al1 := [(3, .int 1), (0, .ref 176), (1, .int (nI (b))), (2, .int 9)]) rfl rfl ?_
  refine w_p (pc1 := 28) rfl rfl ?_
  refine w_p (pc1 := 29) (st1 := .long 9 :: _) rfl rfl ?_
  refine w_m0 (pc1 := 32) (st1 := .long 4 :: _) rfl rfl rfl rfl ?_
  refine w_m0 (pc1 := 35) (st1 := .long 9 :: _) rfl rfl rfl rfl ?_
  refine w_je (pc1 := 38) (vs := [.long 9, .long 4, .long 9]) (rest := []) (st1 := [.int 1]) (m_189t (d := d) (sl := 0) (isIn_t (x := 9) (m := 4) (n := 9) rfl rfl (by decide) (by decide))) rfl rfl rfl (fun _ _ => rfl) rfl (by exact cl_s my_189 rfl rfl rfl (Nat.le_of_ble_eq_true rfl) rfl rfl) (by rfl) (Nat.le_of_ble_eq_true rfl) (Nat.le_of_ble_eq_true rfl) rfl (by rfl) ?_
  refine w_f (a := 57) (b := 41) rfl rfl rfl ?_
  refine w_p (pc1 := 42) rfl rfl ?_
  refine w_f (a := 61) (b := 45) rfl rfl rfl ?_
  refine w_p (pc1 := 46) rfl rfl ?_
  refine w_p (pc1 := 47) (st1 := .int 4 :: _) rfl rfl ?_
  refine w_p (pc1 := 48) (st1 := .int 5 :: _) rfl rfl ?_
  refine w_p (pc1 := 49) rfl rfl ?_
  refine w_m0 (pc1 := 52) rfl rfl (h_gC rfl rfl rfl rfl) rfl ?_
  refine w_p (pc1 := 53) rfl rfl ?_
  refine w_m0 (pc1 := 54) (st1 := .int (nI (w)) :: _) rfl rfl (n_ile (e := b) rfl rfl rfl (by omega) (hw)) rfl ?_
  refine w_t (a := 61) (b := 57) (bN_ge_t (a := 5) (b := w) (by omega) (by omega) (by omega)) rfl rfl ?_
  refine w_p (pc1 := 62) (st1 := .int 0 :: _) rfl rfl ?_
  refine w_p (pc1 := 64) (al1 := [(4, .int 0), (3, .int 1), (0, .ref 176), (1, .int (nI (b))), (2, .int 9)]) rfl rfl ?_
  refine w_p (pc1 := 65) rfl rfl ?_
  refine w_p (pc1 := 66) rfl rfl ?_
  refine w_f (a := 78) (b := 69) rfl rfl rfl ?_
  refine w_p (pc1 := 71) rfl rfl ?_
  refine w_t (a := 78) (b := 74) rfl rfl rfl ?_
  refine w_p (pc1 := 79) (st1 := .int 0 :: _) rfl rfl ?_
  refine w_p (pc1 := 80) rfl rfl ?_
  refine w_p (pc1 := 81) (st1 := .long 9 :: _) rfl rfl ?_
  refine w_p (pc1 := 82) (st1 := .long 0 :: _) rfl rfl ?_
  refine w_m0 (pc1 := 85) (st1 := .long 9 :: _) rfl rfl rfl rfl ?_
  refine w_je (pc1 := 88) (vs := [.long 9, .long 0, .long 9]) (rest := [.int 0, .ref 176]) (st1 := [.int 1, .int 0, .ref 176]) (m_189t (d := d) (sl := 0) (isIn_t (x := 9) (m := 0) (n := 9) rfl rfl (by decide) (by decide))) rfl rfl rfl (fun _ _ => rfl) rfl (by exact cl_s my_189 rfl rfl rfl (Nat.le_of_ble_eq_true rfl) rfl rfl) (by rfl) (Nat.le_of_ble_eq_true rfl) (Nat.le_of_ble_eq_true rfl) rfl (by rfl) ?_
  refine w_je (pc1 := 91) (vs := [.ref 176, .int 0, .int 1]) (rest := []) (st1 := [.int 0]) (m_190 (d := d) (sl := 0)) rfl rfl rfl (fun _ _ => rfl) rfl (by exact cl_v my_190 rfl rfl rfl (Nat.le_of_ble_eq_true rfl) rfl (MH_obj rfl rfl) rfl (by decide) rfl rfl) (by rfl) (Nat.le_of_ble_eq_true rfl) (Nat.le_of_ble_eq_true rfl) rfl (by rfl) ?_
  refine w_f (a := 96) (b := 94) rfl rfl rfl ?_
  refine w_p (pc1 := 95) (st1 := .long 0 :: _) rfl rfl ?_
  refine w_r rfl rfl rfl (fun _ _ => rfl) rfl ?_
  exact ⟨rfl, rfl, rfl⟩
set_option maxRecDepth 100000 in
theorem m_290x (hb : b < 6) (hf : C.1 78 b = 1) (h : ¬ (0 ≤ y.toInt ∧ y.toInt ≤ 9)) : Wd L xs (d + 1) y_290 (0, [(0, .ref 176), (1, .int (nI b)), (2, .int y)], [], MH C t, sl) (Rt (some (.long 0)) (MH (sI C 76 0 2) t) sl) nX := by
  refine w_p (pc1 := 1) rfl rfl ?_
  refine w_p (pc1 := 2) rfl rfl ?_
  refine w_p (pc1 := 3) (st1 := .long 0 :: _) rfl rfl ?_
  refine w_m0 (pc1 := 6) (st1 := .long 5 :: _) rfl rfl rfl rfl ?_
  refine w_je (pc1 := 9) (vs := [_, .long 0, .long 5]) (rest := []) (st1 := [.int 1]) (m_189t (d := d) (sl := 0) (isIn_t (x := nI b) (m := 0) (n := 5) rfl rfl (by rw [nK_int (by omega)]; omega) (by rw [nK_int (by omega)]; omega))) rfl rfl rfl (fun _ _ => rfl) rfl (by exact cl_s my_189 rfl rfl rfl (Nat.le_of_ble_eq_true rfl) rfl rfl) (by rfl) (Nat.le_of_ble_eq_true rfl) (Nat.le_of_ble_eq_true rfl) rfl (by rfl) ?_
  refine w_f (a := 25) (b := 12) rfl rfl rfl ?_
  refine w_p (pc1 := 13) rfl rfl ?_
  refine w_m0 (pc1 := 16) rfl rfl (h_gC rfl rfl rfl rfl) rfl ?_
  refine w_p (pc1 := 17) rfl rfl ?_
  refine w_m0 (pc1 := 18) (st1 := .int 1 :: _) rfl rfl (n_ble (e := b) rfl rfl (by decide) rfl (by omega) (hf)) rfl ?_
  refine w_f (a := 25) (b := 21) rfl rfl rfl ?_
  refine w_p (pc1 := 22) (st1 := .int 1 :: _) rfl rfl ?_
  refine w_p (pc1 := 26) rfl rfl ?_
  refine w_p (pc1 := 27) (al1 := [(3, .int 1), (0, .ref 176), (1, .int (nI (b))), (2, .int (y))]) rfl rfl ?_
  refine w_p (pc1 := 28) rfl rfl ?_
  refine w_p (pc1 := 29) rfl rfl ?_
  refine w_m0 (pc1 := 32) (st1 := .long 4 :: _) rfl rfl rfl rfl ?_
  refine w_m0 (pc1 := 35) (st1 := .long 9 :: _) rfl rfl rfl rfl ?_
  refine w_je (pc1 := 38) (vs := [_, .long 4, .long 9]) (rest := []) (st1 := [.int 0]) (m_189f (d := d) (sl := 0) (isIn_f (x := y) (m := 4) (n := 9) rfl rfl (by omega))) rfl rfl rfl (fun _ _ => rfl) rfl (by exact cl_s my_189 rfl rfl rfl (Nat.le_of_ble_eq_true rfl) rfl rfl) (by rfl) (Nat.le_of_ble_eq_true rfl) (Nat.le_of_ble_eq_true rfl) rfl (by rfl) ?_
  refine w_t (a := 57) (b := 41) rfl rfl rfl ?_
  refine w_p (pc1 := 58) (st1 := .int 1 :: _) rfl rfl ?_
  refine w_p (pc1 := 62) rfl rfl ?_
  refine w_p (pc1 := 64) (al1 := [(4, .int 1), (3, .int 1), (0, .ref 176), (1, .int (nI (b))), (2, .int (y))]) rfl rfl ?_
  refine w_p (pc1 := 65) rfl rfl ?_
  refine w_p (pc1 := 66) rfl rfl ?_
  refine w_f (a := 78) (b := 69) rfl rfl rfl ?_
  refine w_p (pc1 := 71) rfl rfl ?_
  refine w_f (a := 78) (b := 74) rfl rfl rfl ?_
  refine w_p (pc1 := 75) (st1 := .int 1 :: _) rfl rfl ?_
  refine w_p (pc1 := 79) rfl rfl ?_
  refine w_p (pc1 := 80) rfl rfl ?_
  refine w_p (pc1 := 81) rfl rfl ?_
  refine w_p (pc1 := 82) (st1 := .long 0 :: _) rfl rfl ?_
  refine w_m0 (pc1 := 85) (st1 := .long 9 :: _) rfl rfl rfl rfl ?_
  refine w_je (pc1 := 88) (vs := [_, .long 0, .long 9]) (rest := [.int 1, .ref 176]) (st1 := [.int 0, .int 1, .ref 176]) (m_189f (d := d) (sl := 0) (isIn_f (x := y) (m := 0) (n := 9) rfl rfl h)) rfl rfl rfl (fun _ _ => rfl) rfl (by exact cl_s my_189 rfl rfl rfl (Nat.le_of_ble_eq_true rfl) rfl rfl) (by rfl) (Nat.le_of_ble_eq_true rfl) (Nat.le_of_ble_eq_true rfl) rfl (by rfl) ?_
  refine w_je (pc1 := 91) (vs := [.ref 176, .int 1, .int 0]) (rest := []) (st1 := [.int 0]) (m_190 (d := d) (sl := 0)) rfl rfl rfl (fun _ _ => rfl) rfl (by exact cl_v my_190 rfl rfl rfl (Nat.le_of_ble_eq_true rfl) rfl (MH_obj rfl rfl) rfl (by decide) rfl rfl) (by rfl) (Nat.le_of_ble_eq_true rfl) (Nat.le_of_ble_eq_true rfl) rfl (by rfl) ?_
  refine w_f (a := 96) (b := 94) rfl rfl rfl ?_
  refine w_p (pc1 := 95) (st1 := .long 0 :: _) rfl rfl ?_
  refine w_r rfl rfl rfl (fun _ _ => rfl) rfl ?_
  exact ⟨rfl, rfl, rfl⟩
set_option maxRecDepth 100000 in
theorem m_290n (hb : b < 6) (hf : C.1 78 b = 0) : Wd L xs (d + 1) y_290 (0, [(0, .ref 176), (1, .int (nI b)), (2, .int y)], [], MH C t, sl) (Rt (some (.long 0)) (MH (sI C 76 0 1) t) sl) nX := by
  by_cases h1 : 4 ≤ y.toInt ∧ y.toInt ≤ 9
  · skip
    refine w_p (pc1 := 1) rfl rfl ?_
    refine w_p (pc1 := 2) rfl rfl ?_
    refine w_p (pc1 := 3) (st1 := .long 0 :: _) rfl rfl ?_
    refine w_m0 (pc1 := 6) (st1 := .long 5 :: _) rfl rfl rfl rfl ?_
    refine w_je (pc1 := 9) (vs := [_, .long 0, .long 5]) (rest := []) (st1 := [.int 1]) (m_189t (d := d) (sl := 0) (isIn_t (x := nI b) (m := 0) (n := 5) rfl rfl (by rw [nK_int (by omega)]; omega) (by rw [nK_int (by omega)]; omega))) rfl rfl rfl (fun _ _ => rfl) rfl (by exact cl_s my_189 rfl rfl rfl (Nat.le_of_ble_eq_true rfl) rfl rfl) (by rfl) (Nat.le_of_ble_eq_true rfl) (Nat.le_of_ble_eq_true rfl) rfl (by rfl) ?_
    refine w_f (a := 25) (b := 12) rfl rfl rfl ?_
    refine w_p (pc1 := 13) rfl rfl ?_
    refine w_m0 (pc1 := 16) rfl rfl (h_gC rfl rfl rfl rfl) rfl ?_
    refine w_p (pc1 := 17) rfl rfl ?_
    refine w_m0 (pc1 := 18) (st1 := .int 0 :: _) rfl rfl (n_ble (e := b) rfl rfl (by decide) rfl (by omega) (hf)) rfl ?_
    refine w_t (a := 25) (b := 21) rfl rfl rfl ?_
    refine w_p (pc1 := 26) (st1 := .int 0 :: _) rfl rfl ?_
    refine w_p (pc1 := 27) (al1 := [(3, .int 0), (0, .ref 176), (1, .int (nI (b))), (2, .int (y))]) rfl rfl ?_
    refine w_p (pc1 := 28) rfl rfl ?_
    refine w_p (pc1 := 29) rfl rfl ?_
    refine w_m0 (pc1 := 32) (st1 := .long 4 :: _) rfl rfl rfl rfl ?_
    refine w_m0 (pc1 := 35) (st1 := .long 9 :: _) rfl rfl rfl rfl ?_
    refine w_je (pc1 := 38) (vs := [_, .long 4, .long 9]) (rest := []) (st1 := [.int 1]) (m_189t (d := d) (sl := 0) (isIn_t (x := y) (m := 4) (n := 9) rfl rfl h1.1 h1.2)) rfl rfl rfl (fun _ _ => rfl) rfl (by exact cl_s my_189 rfl rfl rfl (Nat.le_of_ble_eq_true rfl) rfl rfl) (by rfl) (Nat.le_of_ble_eq_true rfl) (Nat.le_of_ble_eq_true rfl) rfl (by rfl) ?_
    refine w_f (a := 57) (b := 41) rfl rfl rfl ?_
    refine w_p (pc1 := 42) rfl rfl ?_
    refine w_t (a := 61) (b := 45) rfl rfl rfl ?_
    refine w_p (pc1 := 62) (st1 := .int 0 :: _) rfl rfl ?_
    refine w_p (pc1 := 64) (al1 := [(4, .int 0), (3, .int 0), (0, .ref 176), (1, .int (nI (b))), (2, .int (y))]) rfl rfl ?_
    refine w_p (pc1 := 65) rfl rfl ?_
    refine w_p (pc1 := 66) rfl rfl ?_
    refine w_t (a := 78) (b := 69) rfl rfl rfl ?_
    refine w_p (pc1 := 79) (st1 := .int 0 :: _) rfl rfl ?_
    refine w_p (pc1 := 80) rfl rfl ?_
    refine w_p (pc1 := 81) rfl rfl ?_
    refine w_p (pc1 := 82) (st1 := .long 0 :: _) rfl rfl ?_
    refine w_m0 (pc1 := 85) (st1 := .long 9 :: _) rfl rfl rfl rfl ?_
    refine w_je (pc1 := 88) (vs := [_, .long 0, .long 9]) (rest := [.int 0, .ref 176]) (st1 := [.int 1, .int 0, .ref 176]) (m_189t (d := d) (sl := 0) (isIn_t (x := y) (m := 0) (n := 9) rfl rfl (by omega) (by omega))) rfl rfl rfl (fun _ _ => rfl) rfl (by exact cl_s my_189 rfl rfl rfl (Nat.le_of_ble_eq_true rfl) rfl rfl) (by rfl) (Nat.le_of_ble_eq_true rfl) (Nat.le_of_ble_eq_true rfl) rfl (by rfl) ?_
    refine w_je (pc1 := 91) (vs := [.ref 176, .int 0, .int 1]) (rest := []) (st1 := [.int 0]) (m_190 (d := d) (sl := 0)) rfl rfl rfl (fun _ _ => rfl) rfl (by exact cl_v my_190 rfl rfl rfl (Nat.le_of_ble_eq_true rfl) rfl (MH_obj rfl rfl) rfl (by decide) rfl rfl) (by rfl) (Nat.le_of_ble_eq_true rfl) (Nat.le_of_ble_eq_true rfl) rfl (by rfl) ?_
    refine w_f (a := 96) (b := 94) rfl rfl rfl ?_
    refine w_p (pc1 := 95) (st1 := .long 0 :: _) rfl rfl ?_
    refine w_r rfl rfl rfl (fun _ _ => rfl) rfl ?_
    exact ⟨rfl, rfl, rfl⟩
  · by_cases h2 : 0 ≤ y.toInt ∧ y.toInt ≤ 9
    · skip
      refine w_p (pc1 := 1) rfl rfl ?_
      refine w_p (pc1 := 2) rfl rfl ?_
      refine w_p (pc1 := 3) (st1 := .long 0 :: _) rfl rfl ?_
      refine w_m0 (pc1 := 6) (st1 := .long 5 :: _) rfl rfl rfl rfl ?_
      refine w_je (pc1 := 9) (vs := [_, .long 0, .long 5]) (rest := []) (st1 := [.int 1]) (m_189t (d := d) (sl := 0) (isIn_t (x := nI b) (m := 0) (n := 5) rfl rfl (by rw [nK_int (by omega)]; omega) (by rw [nK_int (by omega)]; omega))) rfl rfl rfl (fun _ _ => rfl) rfl (by exact cl_s my_189 rfl rfl rfl (Nat.le_of_ble_eq_true rfl) rfl rfl) (by rfl) (Nat.le_of_ble_eq_true rfl) (Nat.le_of_ble_eq_true rfl) rfl (by rfl) ?_
      refine w_f (a := 25) (b := 12) rfl rfl rfl ?_
      refine w_p (pc1 := 13) rfl rfl ?_
      refine w_m0 (pc1 := 16) rfl rfl (h_gC rfl rfl rfl rfl) rfl ?_
      refine w_p (pc1 := 17) rfl rfl ?_
      refine w_m0 (pc1 := 18) (st1 := .int 0 :: _) rfl rfl (n_ble (e := b) rfl rfl (by decide) rfl (by omega) (hf)) rfl ?_
      refine w_t (a := 25) (b := 21) rfl rfl rfl ?_
      refine w_p (pc1 := 26) (st1 := .int 0 :: _) rfl rfl ?_
      refine w_p (pc1 := 27) (al1 := [(3, .int 0), (0, .ref 176), (1, .int (nI (b))), (2, .int (y))]) rfl rfl ?_
      refine w_p (pc1 := 28) rfl rfl ?_
      refine w_p (pc1 := 29) rfl rfl ?_
      refine w_m0 (pc1 := 32) (st1 := .long 4 :: _) rfl rfl rfl rfl ?_
      refine w_m0 (pc1 := 35) (st1 := .long 9 :: _) rfl rfl rfl rfl ?_
      refine w_je (pc1 := 38) (vs := [_, .long 4, .long 9]) (rest := []) (st1 := [.int 0]) (m_189f (d := d) (sl := 0) (isIn_f (x := y) (m := 4) (n := 9) rfl rfl h1)) rfl rfl rfl (fun _ _ => rfl) rfl (by exact cl_s my_189 rfl rfl rfl (Nat.le_of_ble_eq_true rfl) rfl rfl) (by rfl) (Nat.le_of_ble_eq_true rfl) (Nat.le_of_ble_eq_true rfl) rfl (by rfl) ?_
      refine w_t (a := 57) (b := 41) rfl rfl rfl ?_
      refine w_p (pc1 := 58) (st1 := .int 1 :: _) rfl rfl ?_
      refine w_p (pc1 := 62) rfl rfl ?_
      refine w_p (pc1 := 64) (al1 := [(4, .int 1), (3, .int 0), (0, .ref 176), (1, .int (nI (b))), (2, .int (y))]) rfl rfl ?_
      refine w_p (pc1 := 65) rfl rfl ?_
      refine w_p (pc1 := 66) rfl rfl ?_
      refine w_t (a := 78) (b := 69) rfl rfl rfl ?_
      refine w_p (pc1 := 79) (st1 := .int 0 :: _) rfl rfl ?_
      refine w_p (pc1 := 80) rfl rfl ?_
      refine w_p (pc1 := 81) rfl rfl ?_
      refine w_p (pc1 := 82) (st1 := .long 0 :: _) rfl rfl ?_
      refine w_m0 (pc1 := 85) (st1 := .long 9 :: _) rfl rfl rfl rfl ?_
      refine w_je (pc1 := 88) (vs := [_, .long 0, .long 9]) (rest := [.int 0, .ref 176]) (st1 := [.int 1, .int 0, .ref 176]) (m_189t (d := d) (sl := 0) (isIn_t (x := y) (m := 0) (n := 9) rfl rfl h2.1 h2.2)) rfl rfl rfl (fun _ _ => rfl) rfl (by exact cl_s my_189 rfl rfl rfl (Nat.le_of_ble_eq_true rfl) rfl rfl) (by rfl) (Nat.le_of_ble_eq_true rfl) (Nat.le_of_ble_eq_true rfl) rfl (by rfl) ?_
      refine w_je (pc1 := 91) (vs := [.ref 176, .int 0, .int 1]) (rest := []) (st1 := [.int 0]) (m_190 (d := d) (sl := 0)) rfl rfl rfl (fun _ _ => rfl) rfl (by exact cl_v my_190 rfl rfl rfl (Nat.le_of_ble_eq_true rfl) rfl (MH_obj rfl rfl) rfl (by decide) rfl rfl) (by rfl) (Nat.le_of_ble_eq_true rfl) (Nat.le_of_ble_eq_true rfl) rfl (by rfl) ?_
      refine w_f (a := 96) (b := 94) rfl rfl rfl ?_
      refine w_p (pc1 := 95) (st1 := .long 0 :: _) rfl rfl ?_
      refine w_r rfl rfl rfl (fun _ _ => rfl) rfl ?_
      exact ⟨rfl, rfl, rfl⟩
    · skip
      refine w_p (pc1 := 1) rfl rfl ?_
      refine w_p (pc1 := 2) rfl rfl ?_
      refine w_p (pc1 := 3) (st1 := .long 0 :: _) rfl rfl ?_
      refine w_m0 (pc1 := 6) (st1 := .long 5 :: _) rfl rfl rfl rfl ?_
      refine w_je (pc1 := 9) (vs := [_, .long 0, .long 5]) (rest := []) (st1 := [.int 1]) (m_189t (d := d) (sl := 0) (isIn_t (x := nI b) (m := 0) (n := 5) rfl rfl (by rw [nK_int (by omega)]; omega) (by rw [nK_int (by omega)]; omega))) rfl rfl rfl (fun _ _ => rfl) rfl (by exact cl_s my_189 rfl rfl rfl (Nat.le_of_ble_eq_true rfl) rfl rfl) (by rfl) (Nat.le_of_ble_eq_true rfl) (Nat.le_of_ble_eq_true rfl) rfl (by rfl) ?_
      refine w_f (a := 25) (b := 12) rfl rfl rfl ?_
      refine w_p (pc1 := 13) rfl rfl ?_
      refine w_m0 (pc1 := 16) rfl rfl (h_gC rfl rfl rfl rfl) rfl ?_
      refine w_p (pc1 := 17) rfl rfl ?_
      refine w_m0 (pc1 := 18) (st1 := .int 0 :: _) rfl rfl (n_ble (e := b) rfl rfl (by decide) rfl (by omega) (hf)) rfl ?_
      refine w_t (a := 25) (b := 21) rfl rfl rfl ?_
      refine w_p (pc1 := 26) (st1 := .int 0 :: _) rfl rfl ?_
      refine w_p (pc1 := 27) (al1 := [(3, .int 0), (0, .ref 176), (1, .int (nI (b))), (2, .int (y))]) rfl rfl ?_
      refine w_p (pc1 := 28) rfl rfl ?_
      refine w_p (pc1 := 29) rfl rfl ?_
      refine w_m0 (pc1 := 32) (st1 := .long 4 :: _) rfl rfl rfl rfl ?_
      refine w_m0 (pc1 := 35) (st1 := .long 9 :: _) rfl rfl rfl rfl ?_
      refine w_je (pc1 := 38) (vs := [_, .long 4, .long 9]) (rest := []) (st1 := [.int 0]) (m_189f (d := d) (sl := 0) (isIn_f (x := y) (m := 4) (n := 9) rfl rfl h1)) rfl rfl rfl (fun _ _ => rfl) rfl (by exact cl_s my_189 rfl rfl rfl (Nat.le_of_ble_eq_true rfl) rfl rfl) (by rfl) (Nat.le_of_ble_eq_true rfl) (Nat.le_of_ble_eq_true rfl) rfl (by rfl) ?_
      refine w_t (a := 57) (b := 41) rfl rfl rfl ?_
      refine w_p (pc1 := 58) (st1 := .int 1 :: _) rfl rfl ?_
      refine w_p (pc1 := 62) rfl rfl ?_
      refine w_p (pc1 := 64) (al1 := [(4, .int 1), (3, .int 0), (0, .ref 176), (1, .int (nI (b))), (2, .int (y))]) rfl rfl ?_
      refine w_p (pc1 := 65) rfl rfl ?_
      refine w_p (pc1 := 66) rfl rfl ?_
      refine w_t (a := 78) (b := 69) rfl rfl rfl ?_
      refine w_p (pc1 := 79) (st1 := .int 0 :: _) rfl rfl ?_
      refine w_p (pc1 := 80) rfl rfl ?_
      refine w_p (pc1 := 81) rfl rfl ?_
      refine w_p (pc1 := 82) (st1 := .long 0 :: _) rfl rfl ?_
      refine w_m0 (pc1 := 85) (st1 := .long 9 :: _) rfl rfl rfl rfl ?_
      refine w_je (pc1 := 88) (vs := [_, .long 0, .long 9]) (rest := [.int 0, .ref 176]) (st1 := [.int 0, .int 0, .ref 176]) (m_189f (d := d) (sl := 0) (isIn_f (x := y) (m := 0) (n := 9) rfl rfl h2)) rfl rfl rfl (fun _ _ => rfl) rfl (by exact cl_s my_189 rfl rfl rfl (Nat.le_of_ble_eq_true rfl) rfl rfl) (by rfl) (Nat.le_of_ble_eq_true rfl) (Nat.le_of_ble_eq_true rfl) rfl (by rfl) ?_
      refine w_je (pc1 := 91) (vs := [.ref 176, .int 0, .int 0]) (rest := []) (st1 := [.int 0]) (m_190 (d := d) (sl := 0)) rfl rfl rfl (fun _ _ => rfl) rfl (by exact cl_v my_190 rfl rfl rfl (Nat.le_of_ble_eq_true rfl) rfl (MH_obj rfl rfl) rfl (by decide) rfl rfl) (by rfl) (Nat.le_of_ble_eq_true rfl) (Nat.le_of_ble_eq_true rfl) rfl (by rfl) ?_
      refine w_f (a := 96) (b := 94) rfl rfl rfl ?_
      refine w_p (pc1 := 95) (st1 := .long 0 :: _) rfl rfl ?_
      refine w_r rfl rfl rfl (fun _ _ => rfl) rfl ?_
      exact ⟨rfl, rfl, rfl⟩
set_option maxRecDepth 100000 in
theorem m_290o (h : ¬ (0 ≤ x.toInt ∧ x.toInt < 6)) : Wd L xs (d + 1) y_290 (0, [(0, .ref 176), (1, .int x), (2, .int y)], [], MH C t, sl) (Rt (some (.long 0)) (MH (sI C 76 0 1) t) sl) nX := by
  by_cases h1 : 4 ≤ y.toInt ∧ y.toInt ≤ 9
  · skip
    refine w_p (pc1 := 1) rfl rfl ?_
    refine w_p (pc1 := 2) rfl rfl ?_
    refine w_p (pc1 := 3) (st1 := .long 0 :: _) rfl rfl ?_
    refine w_m0 (pc1 := 6) (st1 := .long 5 :: _) rfl rfl rfl rfl ?_
    refine w_je (pc1 := 9) (vs := [_, .long 0, .long 5]) (rest := []) (st1 := [.int 0]) (m_189f (d := d) (sl := 0) (isIn_f (x := x) (m := 0) (n := 5) rfl rfl (by omega))) rfl rfl rfl (fun _ _ => rfl) rfl (by exact cl_s my_189 rfl rfl rfl (Nat.le_of_ble_eq_true rfl) rfl rfl) (by rfl) (Nat.le_of_ble_eq_true rfl) (Nat.le_of_ble_eq_true rfl) rfl (by rfl) ?_
    refine w_t (a := 25) (b := 12) rfl rfl rfl ?_
    refine w_p (pc1 := 26) (st1 := .int 0 :: _) rfl rfl ?_
    refine w_p (pc1 := 27) (al1 := [(3, .int 0), (0, .ref 176), (1, .int (x)), (2, .int (y))]) rfl rfl ?_
    refine w_p (pc1 := 28) rfl rfl ?_
    refine w_p (pc1 := 29) rfl rfl ?_
    refine w_m0 (pc1 := 32) (st1 := .long 4 :: _) rfl rfl rfl rfl ?_
    refine w_m0 (pc1 := 35) (st1 := .long 9 :: _) rfl rfl rfl rfl ?_
    refine w_je (pc1 := 38) (vs := [_, .long 4, .long 9]) (rest := []) (st1 := [.int 1]) (m_189t (d := d) (sl := 0) (isIn_t (x := y) (m := 4) (n := 9) rfl rfl h1.1 h1.2)) rfl rfl rfl (fun _ _ => rfl) rfl (by exact cl_s my_189 rfl rfl rfl (Nat.le_of_ble_eq_true rfl) rfl rfl) (by rfl) (Nat.le_of_ble_eq_true rfl) (Nat.le_of_ble_eq_true rfl) rfl (by rfl) ?_
    refine w_f (a := 57) (b := 41) rfl rfl rfl ?_
    refine w_p (pc1 := 42) rfl rfl ?_
    refine w_t (a := 61) (b := 45) rfl rfl rfl ?_
    refine w_p (pc1 := 62) (st1 := .int 0 :: _) rfl rfl ?_
    refine w_p (pc1 := 64) (al1 := [(4, .int 0), (3, .int 0), (0, .ref 176), (1, .int (x)), (2, .int (y))]) rfl rfl ?_
    refine w_p (pc1 := 65) rfl rfl ?_
    refine w_p (pc1 := 66) rfl rfl ?_
    refine w_t (a := 78) (b := 69) rfl rfl rfl ?_
    refine w_p (pc1 := 79) (st1 := .int 0 :: _) rfl rfl ?_
    refine w_p (pc1 := 80) rfl rfl ?_
    refine w_p (pc1 := 81) rfl rfl ?_
    refine w_p (pc1 := 82) (st1 := .long 0 :: _) rfl rfl ?_
    refine w_m0 (pc1 := 85) (st1 := .long 9 :: _) rfl rfl rfl rfl ?_
    refine w_je (pc1 := 88) (vs := [_, .long 0, .long 9]) (rest := [.int 0, .ref 176]) (st1 := [.int 1, .int 0, .ref 176]) (m_189t (d := d) (sl := 0) (isIn_t (x := y) (m := 0) (n := 9) rfl rfl (by omega) (by omega))) rfl rfl rfl (fun _ _ => rfl) rfl (by exact cl_s my_189 rfl rfl rfl (Nat.le_of_ble_eq_true rfl) rfl rfl) (by rfl) (Nat.le_of_ble_eq_true rfl) (Nat.le_of_ble_eq_true rfl) rfl (by rfl) ?_
    refine w_je (pc1 := 91) (vs := [.ref 176, .int 0, .int 1]) (rest := []) (st1 := [.int 0]) (m_190 (d := d) (sl := 0)) rfl rfl rfl (fun _ _ => rfl) rfl (by exact cl_v my_190 rfl rfl rfl (Nat.le_of_ble_eq_true rfl) rfl (MH_obj rfl rfl) rfl (by decide) rfl rfl) (by rfl) (Nat.le_of_ble_eq_true rfl) (Nat.le_of_ble_eq_true rfl) rfl (by rfl) ?_
    refine w_f (a := 96) (b := 94) rfl rfl rfl ?_
    refine w_p (pc1 := 95) (st1 := .long 0 :: _) rfl rfl ?_
    refine w_r rfl rfl rfl (fun _ _ => rfl) rfl ?_
    exact ⟨rfl, rfl, rfl⟩
  · by_cases h2 : 0 ≤ y.toInt ∧ y.toInt ≤ 9
    · skip
      refine w_p (pc1 := 1) rfl rfl ?_
      refine w_p (pc1 := 2) rfl rfl ?_
      refine w_p (pc1 := 3) (st1 := .long 0 :: _) rfl rfl ?_
      refine w_m0 (pc1 := 6) (st1 := .long 5 :: _) rfl rfl rfl rfl ?_
      refine w_je (pc1 := 9) (vs := [_, .long 0, .long 5]) (rest := []) (st1 := [.int 0]) (m_189f (d := d) (sl := 0) (isIn_f (x := x) (m := 0) (n := 5) rfl rfl (by omega))) rfl rfl rfl (fun _ _ => rfl) rfl (by exact cl_s my_189 rfl rfl rfl (Nat.le_of_ble_eq_true rfl) rfl rfl) (by rfl) (Nat.le_of_ble_eq_true rfl) (Nat.le_of_ble_eq_true rfl) rfl (by rfl) ?_
      refine w_t (a := 25) (b := 12) rfl rfl rfl ?_
      refine w_p (pc1 := 26) (st1 := .int 0 :: _) rfl rfl ?_
      refine w_p (pc1 := 27) (al1 := [(3, .int 0), (0, .ref 176), (1, .int (x)), (2, .int (y))]) rfl rfl ?_
      refine w_p (pc1 := 28) rfl rfl ?_
      refine w_p (pc1 := 29) rfl rfl ?_
      refine w_m0 (pc1 := 32) (st1 := .long 4 :: _) rfl rfl rfl rfl ?_
      refine w_m0 (pc1 := 35) (st1 := .long 9 :: _) rfl rfl rfl rfl ?_
      refine w_je (pc1 := 38) (vs := [_, .long 4, .long 9]) (rest := []) (st1 := [.int 0]) (m_189f (d := d) (sl := 0) (isIn_f (x := y) (m := 4) (n := 9) rfl rfl h1)) rfl rfl rfl (fun _ _ => rfl) rfl (by exact cl_s my_189 rfl rfl rfl (Nat.le_of_ble_eq_true rfl) rfl rfl) (by rfl) (Nat.le_of_ble_eq_true rfl) (Nat.le_of_ble_eq_true rfl) rfl (by rfl) ?_
      refine w_t (a := 57) (b := 41) rfl rfl rfl ?_
      refine w_p (pc1 := 58) (st1 := .int 1 :: _) rfl rfl ?_
      refine w_p (pc1 := 62) rfl rfl ?_
      refine w_p (pc1 := 64) (al1 := [(4, .int 1), (3, .int 0), (0, .ref 176), (1, .int (x)), (2, .int (y))]) rfl rfl ?_
      refine w_p (pc1 := 65) rfl rfl ?_
      refine w_p (pc1 := 66) rfl rfl ?_
      refine w_t (a := 78) (b := 69) rfl rfl rfl ?_
      refine w_p (pc1 := 79) (st1 := .int 0 :: _) rfl rfl ?_
      refine w_p (pc1 := 80) rfl rfl ?_
      refine w_p (pc1 := 81) rfl rfl ?_
      refine w_p (pc1 := 82) (st1 := .long 0 :: _) rfl rfl ?_
      refine w_m0 (pc1 := 85) (st1 := .long 9 :: _) rfl rfl rfl rfl ?_
      refine w_je (pc1 := 88) (vs := [_, .long 0, .long 9]) (rest := [.int 0, .ref 176]) (st1 := [.int 1, .int 0, .ref 176]) (m_189t (d := d) (sl := 0) (isIn_t (x := y) (m := 0) (n := 9) rfl rfl h2.1 h2.2)) rfl rfl rfl (fun _ _ => rfl) rfl (by exact cl_s my_189 rfl rfl rfl (Nat.le_of_ble_eq_true rfl) rfl rfl) (by rfl) (Nat.le_of_ble_eq_true rfl) (Nat.le_of_ble_eq_true rfl) rfl (by rfl) ?_
      refine w_je (pc1 := 91) (vs := [.ref 176, .int 0, .int 1]) (rest := []) (st1 := [.int 0]) (m_190 (d := d) (sl := 0)) rfl rfl rfl (fun _ _ => rfl) rfl (by exact cl_v my_190 rfl rfl rfl (Nat.le_of_ble_eq_true rfl) rfl (MH_obj rfl rfl) rfl (by decide) rfl rfl) (by rfl) (Nat.le_of_ble_eq_true rfl) (Nat.le_of_ble_eq_true rfl) rfl (by rfl) ?_
      refine w_f (a := 96) (b := 94) rfl rfl rfl ?_
      refine w_p (pc1 := 95) (st1 := .long 0 :: _) rfl rfl ?_
      refine w_r rfl rfl rfl (fun _ _ => rfl) rfl ?_
      exact ⟨rfl, rfl, rfl⟩
    · skip
      refine w_p (pc1 := 1) rfl rfl ?_
      refine w_p (pc1 := 2) rfl rfl ?_
      refine w_p (pc1 := 3) (st1 := .long 0 :: _) rfl rfl ?_
      refine w_m0 (pc1 := 6) (st1 := .long 5 :: _) rfl rfl rfl rfl ?_
      refine w_je (pc1 := 9) (vs := [_, .long 0, .long 5]) (rest := []) (st1 := [.int 0]) (m_189f (d := d) (sl := 0) (isIn_f (x := x) (m := 0) (n := 5) rfl rfl (by omega))) rfl rfl rfl (fun _ _ => rfl) rfl (by exact cl_s my_189 rfl rfl rfl (Nat.le_of_ble_eq_true rfl) rfl rfl) (by rfl) (Nat.le_of_ble_eq_true rfl) (Nat.le_of_ble_eq_true rfl) rfl (by rfl) ?_
      refine w_t (a := 25) (b := 12) rfl rfl rfl ?_
      refine w_p (pc1 := 26) (st1 := .int 0 :: _) rfl rfl ?_
      refine w_p (pc1 := 27) (al1 := [(3, .int 0), (0, .ref 176), (1, .int (x)), (2, .int (y))]) rfl rfl ?_
      refine w_p (pc1 := 28) rfl rfl ?_
      refine w_p (pc1 := 29) rfl rfl ?_
      refine w_m0 (pc1 := 32) (st1 := .long 4 :: _) rfl rfl rfl rfl ?_
      refine w_m0 (pc1 := 35) (st1 := .long 9 :: _) rfl rfl rfl rfl ?_
      refine w_je (pc1 := 38) (vs := [_, .long 4, .long 9]) (rest := []) (st1 := [.int 0]) (m_189f (d := d) (sl := 0) (isIn_f (x := y) (m := 4) (n := 9) rfl rfl h1)) rfl rfl rfl (fun _ _ => rfl) rfl (by exact cl_s my_189 rfl rfl rfl (Nat.le_of_ble_eq_true rfl) rfl rfl) (by rfl) (Nat.le_of_ble_eq_true rfl) (Nat.le_of_ble_eq_true rfl) rfl (by rfl) ?_
      refine w_t (a := 57) (b := 41) rfl rfl rfl ?_
      refine w_p (pc1 := 58) (st1 := .int 1 :: _) rfl rfl ?_
      refine w_p (pc1 := 62) rfl rfl ?_
      refine w_p (pc1 := 64) (al1 := [(4, .int 1), (3, .int 0), (0, .ref 176), (1, .int (x)), (2, .int (y))]) rfl rfl ?_
      refine w_p (pc1 := 65) rfl rfl ?_
      refine w_p (pc1 := 66) rfl rfl ?_
      refine w_t (a := 78) (b := 69) rfl rfl rfl ?_
      refine w_p (pc1 := 79) (st1 := .int 0 :: _) rfl rfl ?_
      refine w_p (pc1 := 80) rfl rfl ?_
      refine w_p (pc1 := 81) rfl rfl ?_
      refine w_p (pc1 := 82) (st1 := .long 0 :: _) rfl rfl ?_
      refine w_m0 (pc1 := 85) (st1 := .long 9 :: _) rfl rfl rfl rfl ?_
      refine w_je (pc1 := 88) (vs := [_, .long 0, .long 9]) (rest := [.int 0, .ref 176]) (st1 := [.int 0, .int 0, .ref 176]) (m_189f (d := d) (sl := 0) (isIn_f (x := y) (m := 0) (n := 9) rfl rfl h2)) rfl rfl rfl (fun _ _ => rfl) rfl (by exact cl_s my_189 rfl rfl rfl (Nat.le_of_ble_eq_true rfl) rfl rfl) (by rfl) (Nat.le_of_ble_eq_true rfl) (Nat.le_of_ble_eq_true rfl) rfl (by rfl) ?_
      refine w_je (pc1 := 91) (vs := [.ref 176, .int 0, .int 0]) (rest := []) (st1 := [.int 0]) (m_190 (d := d) (sl := 0)) rfl rfl rfl (fun _ _ => rfl) rfl (by exact cl_v my_190 rfl rfl rfl (Nat.le_of_ble_eq_true rfl) rfl (MH_obj rfl rfl) rfl (by decide) rfl rfl) (by rfl) (Nat.le_of_ble_eq_true rfl) (Nat.le_of_ble_eq_true rfl) rfl (by rfl) ?_
      refine w_f (a := 96) (b := 94) rfl rfl rfl ?_
      refine w_p (pc1 := 95) (st1 := .long 0 :: _) rfl rfl ?_
      refine w_r rfl rfl rfl (fun _ _ => rfl) rfl ?_
      exact ⟨rfl, rfl, rfl⟩
set_option maxRecDepth 100000 in
theorem sb1 (h : nn ≤ 100) : ((nI nn - 1).toInt64).toInt = (nn : Int) - 1 := by
  have h1 := nK_int (k := nn) (by omega)
  have h2 : (1 : Int32).toInt = 1 := rfl
  rw [i64, sub_int (by omega) (by omega), h1, h2]
set_option maxRecDepth 100000 in
theorem m_291n (hb : b < 6) (hf : C.1 78 b = 0) : Wd L xs (d + 1) y_291 (0, [(0, .ref 176), (1, .int (nI b)), (2, .int y), (3, .int z)], [], MH C t, sl) (Rt (some (.long 0)) (MH (sI C 76 0 1) t) sl) nX := by
  refine w_p (pc1 := 1) rfl rfl ?_
  refine w_p (pc1 := 2) rfl rfl ?_
  refine w_p (pc1 := 3) (st1 := .long 0 :: _) rfl rfl ?_
  refine w_m0 (pc1 := 6) (st1 := .long 5 :: _) rfl rfl rfl rfl ?_
  refine w_je (pc1 := 9) (vs := [_, .long 0, .long 5]) (rest := []) (st1 := [.int 1]) (m_189t (d := d) (sl := 0) (isIn_t (x := nI b) (m := 0) (n := 5) rfl rfl (by rw [nK_int (by omega)]; omega) (by rw [nK_int (by omega)]; omega))) rfl rfl rfl (fun _ _ => rfl) rfl (by exact cl_s my_189 rfl rfl rfl (Nat.le_of_ble_eq_true rfl) rfl rfl) (by rfl) (Nat.le_of_ble_eq_true rfl) (Nat.le_of_ble_eq_true rfl) rfl (by rfl) ?_
  refine w_f (a := 63) (b := 12) rfl rfl rfl ?_
  refine w_p (pc1 := 13) rfl rfl ?_
  refine w_m0 (pc1 := 16) rfl rfl (h_gC rfl rfl rfl rfl) rfl ?_
  refine w_p (pc1 := 17) rfl rfl ?_
  refine w_m0 (pc1 := 18) (st1 := .int 0 :: _) rfl rfl (n_ble (e := b) rfl rfl (by decide) rfl (by omega) (hf)) rfl ?_
  refine w_t (a := 63) (b := 21) rfl rfl rfl ?_
  refine w_p (pc1 := 64) (st1 := .int 0 :: _) rfl rfl ?_
  refine w_p (pc1 := 66) (al1 := [(4, .int 0), (0, .ref 176), (1, .int (nI (b))), (2, .int (y)), (3, .int (z))]) rfl rfl ?_
  refine w_p (pc1 := 67) rfl rfl ?_
  refine w_p (pc1 := 69) rfl rfl ?_
  refine w_p (pc1 := 70) (st1 := .int 1 :: _) rfl rfl ?_
  refine w_je (pc1 := 73) (vs := [.ref 176, .int 0, .int 1]) (rest := []) (st1 := [.int 0]) (m_190 (d := d) (sl := 0)) rfl rfl rfl (fun _ _ => rfl) rfl (by exact cl_v my_190 rfl rfl rfl (Nat.le_of_ble_eq_true rfl) rfl (MH_obj rfl rfl) rfl (by decide) rfl rfl) (by rfl) (Nat.le_of_ble_eq_true rfl) (Nat.le_of_ble_eq_true rfl) rfl (by rfl) ?_
  refine w_f (a := 78) (b := 76) rfl rfl rfl ?_
  refine w_p (pc1 := 77) (st1 := .long 0 :: _) rfl rfl ?_
  refine w_r rfl rfl rfl (fun _ _ => rfl) rfl ?_
  exact ⟨rfl, rfl, rfl⟩
set_option maxRecDepth 100000 in
theorem m_291o (h : ¬ (0 ≤ x.toInt ∧ x.toInt < 6)) : Wd L xs (d + 1) y_291 (0, [(0, .ref 176), (1, .int x), (2, .int y), (3, .int z)], [], MH C t, sl) (Rt (some (.long 0)) (MH (sI C 76 0 1) t) sl) nX := by
  refine w_p (pc1 := 1) rfl rfl ?_
  refine w_p (pc1 := 2) rfl rfl ?_
  refine w_p (pc1 := 3) (st1 := .long 0 :: _) rfl rfl ?_
  refine w_m0 (pc1 := 6) (st1 := .long 5 :: _) rfl rfl rfl rfl ?_
  refine w_je (pc1 := 9) (vs := [_, .long 0, .long 5]) (rest := []) (st1 := [.int 0]) (m_189f (d := d) (sl := 0) (isIn_f (x := x) (m := 0) (n := 5) rfl rfl (by omega))) rfl rfl rfl (fun _ _ => rfl) rfl (by exact cl_s my_189 rfl rfl rfl (Nat.le_of_ble_eq_true rfl) rfl rfl) (by rfl) (Nat.le_of_ble_eq_true rfl) (Nat.le_of_ble_eq_true rfl) rfl (by rfl) ?_
  refine w_t (a := 63) (b := 12) rfl rfl rfl ?_
  refine w_p (pc1 := 64) (st1 := .int 0 :: _) rfl rfl ?_
  refine w_p (pc1 := 66) (al1 := [(4, .int 0), (0, .ref 176), (1, .int (x)), (2, .int (y)), (3, .int (z))]) rfl rfl ?_
  refine w_p (pc1 := 67) rfl rfl ?_
  refine w_p (pc1 := 69) rfl rfl ?_
  refine w_p (pc1 := 70) (st1 := .int 1 :: _) rfl rfl ?_
  refine w_je (pc1 := 73) (vs := [.ref 176, .int 0, .int 1]) (rest := []) (st1 := [.int 0]) (m_190 (d := d) (sl := 0)) rfl rfl rfl (fun _ _ => rfl) rfl (by exact cl_v my_190 rfl rfl rfl (Nat.le_of_ble_eq_true rfl) rfl (MH_obj rfl rfl) rfl (by decide) rfl rfl) (by rfl) (Nat.le_of_ble_eq_true rfl) (Nat.le_of_ble_eq_true rfl) rfl (by rfl) ?_
  refine w_f (a := 78) (b := 76) rfl rfl rfl ?_
  refine w_p (pc1 := 77) (st1 := .long 0 :: _) rfl rfl ?_
  refine w_r rfl rfl rfl (fun _ _ => rfl) rfl ?_
  exact ⟨rfl, rfl, rfl⟩
set_option maxRecDepth 100000 in
theorem m_291r (hb : b < 6) (hf : C.1 78 b = 1) (hn : C.1 117 b = nI nn) (h4 : nn ≤ 40) (h : ¬ (0 ≤ y.toInt ∧ y.toInt < nn)) : Wd L xs (d + 1) y_291 (0, [(0, .ref 176), (1, .int (nI b)), (2, .int y), (3, .int z)], [], MH C t, sl) (Rt (some (.long 0)) (MH (sI C 76 0 1) t) sl) nX := by
  refine w_p (pc1 := 1) rfl rfl ?_
  refine w_p (pc1 := 2) rfl rfl ?_
  refine w_p (pc1 := 3) (st1 := .long 0 :: _) rfl rfl ?_
  refine w_m0 (pc1 := 6) (st1 := .long 5 :: _) rfl rfl rfl rfl ?_
  refine w_je (pc1 := 9) (vs := [_, .long 0, .long 5]) (rest := []) (st1 := [.int 1]) (m_189t (d := d) (sl := 0) (isIn_t (x := nI b) (m := 0) (n := 5) rfl rfl (by rw [nK_int (by omega)]; omega) (by rw [nK_int (by omega)]; omega))) rfl rfl rfl (fun _ _ => rfl) rfl (by exact cl_s my_189 rfl rfl rfl (Nat.le_of_ble_eq_true rfl) rfl rfl) (by rfl) (Nat.le_of_ble_eq_true rfl) (Nat.le_of_ble_eq_true rfl) rfl (by rfl) ?_
  refine w_f (a := 63) (b := 12) rfl rfl rfl ?_
  refine w_p (pc1 := 13) rfl rfl ?_
  refine w_m0 (pc1 := 16) rfl rfl (h_gC rfl rfl rfl rfl) rfl ?_
  refine w_p (pc1 := 17) rfl rfl ?_
  refine w_m0 (pc1 := 18) (st1 := .int 1 :: _) rfl rfl (n_ble (e := b) rfl rfl (by decide) rfl (by omega) (hf)) rfl ?_
  refine w_f (a := 63) (b := 21) rfl rfl rfl ?_
  refine w_p (pc1 := 22) rfl rfl ?_
  refine w_p (pc1 := 23) rfl rfl ?_
  refine w_p (pc1 := 24) (st1 := .long 0 :: _) rfl rfl ?_
  refine w_p (pc1 := 25) rfl rfl ?_
  refine w_m0 (pc1 := 28) rfl rfl (h_gC rfl rfl rfl rfl) rfl ?_
  refine w_p (pc1 := 29) rfl rfl ?_
  refine w_m0 (pc1 := 30) (st1 := .int (nI (nn)) :: _) rfl rfl (n_ile (e := b) rfl rfl rfl (by omega) (hn)) rfl ?_
  refine w_p (pc1 := 31) (st1 := .int 1 :: _) rfl rfl ?_
  refine w_isub (pc1 := 32) (z := nI nn - 1) rfl (rfl) rfl ?_
  refine w_p (pc1 := 33) rfl rfl ?_
  refine w_je (pc1 := 36) (vs := [_, .long 0, _]) (rest := []) (st1 := [.int 0]) (m_189f (d := d) (sl := 0) (isIn_f (x := y) (m := 0) (n := (nn : Int) - 1) rfl (sb1 (by omega)) (by omega))) rfl rfl rfl (fun _ _ => rfl) rfl (by exact cl_s my_189 rfl rfl rfl (Nat.le_of_ble_eq_true rfl) rfl rfl) (by rfl) (Nat.le_of_ble_eq_true rfl) (Nat.le_of_ble_eq_true rfl) rfl (by rfl) ?_
  refine w_t (a := 63) (b := 39) rfl rfl rfl ?_
  refine w_p (pc1 := 64) (st1 := .int 0 :: _) rfl rfl ?_
  refine w_p (pc1 := 66) (al1 := [(4, .int 0), (0, .ref 176), (1, .int (nI (b))), (2, .int (y)), (3, .int (z))]) rfl rfl ?_
  refine w_p (pc1 := 67) rfl rfl ?_
  refine w_p (pc1 := 69) rfl rfl ?_
  refine w_p (pc1 := 70) (st1 := .int 1 :: _) rfl rfl ?_
  refine w_je (pc1 := 73) (vs := [.ref 176, .int 0, .int 1]) (rest := []) (st1 := [.int 0]) (m_190 (d := d) (sl := 0)) rfl rfl rfl (fun _ _ => rfl) rfl (by exact cl_v my_190 rfl rfl rfl (Nat.le_of_ble_eq_true rfl) rfl (MH_obj rfl rfl) rfl (by decide) rfl rfl) (by rfl) (Nat.le_of_ble_eq_true rfl) (Nat.le_of_ble_eq_true rfl) rfl (by rfl) ?_
  refine w_f (a := 78) (b := 76) rfl rfl rfl ?_
  refine w_p (pc1 := 77) (st1 := .long 0 :: _) rfl rfl ?_
  refine w_r rfl rfl rfl (fun _ _ => rfl) rfl ?_
  exact ⟨rfl, rfl, rfl⟩
set_option maxRecDepth 100000 in
theorem m_291c (hb : b < 6) (hf : C.1 78 b = 1) (hn : C.1 117 b = nI nn) (h4 : nn ≤ 40) (hk : k < nn) (hw : C.1 80 b = nI w) (h6 : w ≤ 6) (h : ¬ (-1 ≤ z.toInt ∧ z.toInt < w)) : Wd L xs (d + 1) y_291 (0, [(0, .ref 176), (1, .int (nI b)), (2, .int (nI k)), (3, .int z)], [], MH C t, sl) (Rt (some (.long 0)) (MH (sI C 76 0 1) t) sl) nX := by
  refine w_p (pc1 := 1) rfl rfl ?_
  refine w_p (pc1 := 2) rfl rfl ?_
  refine w_p (pc1 := 3) (st1 := .long 0 :: _) rfl rfl ?_
  refine w_m0 (pc1 := 6) (st1 := .long 5 :: _) rfl rfl rfl rfl ?_
  refine w_je (pc1 := 9) (vs := [_, .long 0, .long 5]) (rest := []) (st1 := [.int 1]) (m_189t (d := d) (sl := 0) (isIn_t (x := nI b) (m := 0) (n := 5) rfl rfl (by rw [nK_int (by omega)]; omega) (by rw [nK_int (by omega)]; omega))) rfl rfl rfl (fun _ _ => rfl) rfl (by exact cl_s my_189 rfl rfl rfl (Nat.le_of_ble_eq_true rfl) rfl rfl) (by rfl) (Nat.le_of_ble_eq_true rfl) (Nat.le_of_ble_eq_true rfl) rfl (by rfl) ?_
  refine w_f (a := 63) (b := 12) rfl rfl rfl ?_
  refine w_p (pc1 := 13) rfl rfl ?_
  refine w_m0 (pc1 := 16) rfl rfl (h_gC rfl rfl rfl rfl) rfl ?_
  refine w_p (pc1 := 17) rfl rfl ?_
  refine w_m0 (pc1 := 18) (st1 := .int 1 :: _) rfl rfl (n_ble (e := b) rfl rfl (by decide) rfl (by omega) (hf)) rfl ?_
  refine w_f (a := 63) (b := 21) rfl rfl rfl ?_
  refine w_p (pc1 := 22) rfl rfl ?_
  refine w_p (pc1 := 23) rfl rfl ?_
  refine w_p (pc1 := 24) (st1 := .long 0 :: _) rfl rfl ?_
  refine w_p (pc1 := 25) rfl rfl ?_
  refine w_m0 (pc1 := 28) rfl rfl (h_gC rfl rfl rfl rfl) rfl ?_
  refine w_p (pc1 := 29) rfl rfl ?_
  refine w_m0 (pc1 := 30) (st1 := .int (nI (nn)) :: _) rfl rfl (n_ile (e := b) rfl rfl rfl (by omega) (hn)) rfl ?_
  refine w_p (pc1 := 31) (st1 := .int 1 :: _) rfl rfl ?_
  refine w_isub (pc1 := 32) (z := nI nn - 1) rfl (rfl) rfl ?_
  refine w_p (pc1 := 33) rfl rfl ?_
  refine w_je (pc1 := 36) (vs := [_, .long 0, _]) (rest := []) (st1 := [.int 1]) (m_189t (d := d) (sl := 0) (isIn_t (x := nI k) (m := 0) (n := (nn : Int) - 1) rfl (sb1 (by omega)) (by rw [nK_int (by omega)]; omega) (by rw [nK_int (by omega)]; omega))) rfl rfl rfl (fun _ _ => rfl) rfl (by exact cl_s my_189 rfl rfl rfl (Nat.le_of_ble_eq_true rfl) rfl rfl) (by rfl) (Nat.le_of_ble_eq_true rfl) (Nat.le_of_ble_eq_true rfl) rfl (by rfl) ?_
  refine w_f (a := 63) (b := 39) rfl rfl rfl ?_
  refine w_p (pc1 := 40) rfl rfl ?_
  refine w_p (pc1 := 41) rfl rfl ?_
  refine w_m0 (pc1 := 44) (st1 := .long (-1) :: _) rfl rfl rfl rfl ?_
  refine w_p (pc1 := 45) rfl rfl ?_
  refine w_m0 (pc1 := 48) rfl rfl (h_gC rfl rfl rfl rfl) rfl ?_
  refine w_p (pc1 := 49) rfl rfl ?_
  refine w_m0 (pc1 := 50) (st1 := .int (nI (w)) :: _) rfl rfl (n_ile (e := b) rfl rfl rfl (by omega) (hw)) rfl ?_
  refine w_p (pc1 := 51) (st1 := .int 1 :: _) rfl rfl ?_
  refine w_isub (pc1 := 52) (z := nI w - 1) rfl (rfl) rfl ?_
  refine w_p (pc1 := 53) rfl rfl ?_
  refine w_je (pc1 := 56) (vs := [_, .long (-1), _]) (rest := []) (st1 := [.int 0]) (m_189f (d := d) (sl := 0) (isIn_f (x := z) (m := -1) (n := (w : Int) - 1) rfl (sb1 (by omega)) (by omega))) rfl rfl rfl (fun _ _ => rfl) rfl (by exact cl_s my_189 rfl rfl rfl (Nat.le_of_ble_eq_true rfl) rfl rfl) (by rfl) (Nat.le_of_ble_eq_true rfl) (Nat.le_of_ble_eq_true rfl) rfl (by rfl) ?_
  refine w_t (a := 63) (b := 59) rfl rfl rfl ?_
  refine w_p (pc1 := 64) (st1 := .int 0 :: _) rfl rfl ?_
  refine w_p (pc1 := 66) (al1 := [(4, .int 0), (0, .ref 176), (1, .int (nI (b))), (2, .int (nI (k))), (3, .int (z))]) rfl rfl ?_
  refine w_p (pc1 := 67) rfl rfl ?_
  refine w_p (pc1 := 69) rfl rfl ?_
  refine w_p (pc1 := 70) (st1 := .int 1 :: _) rfl rfl ?_
  refine w_je (pc1 := 73) (vs := [.ref 176, .int 0, .int 1]) (rest := []) (st1 := [.int 0]) (m_190 (d := d) (sl := 0)) rfl rfl rfl (fun _ _ => rfl) rfl (by exact cl_v my_190 rfl rfl rfl (Nat.le_of_ble_eq_true rfl) rfl (MH_obj rfl rfl) rfl (by decide) rfl rfl) (by rfl) (Nat.le_of_ble_eq_true rfl) (Nat.le_of_ble_eq_true rfl) rfl (by rfl) ?_
  refine w_f (a := 78) (b := 76) rfl rfl rfl ?_
  refine w_p (pc1 := 77) (st1 := .long 0 :: _) rfl rfl ?_
  refine w_r rfl rfl rfl (fun _ _ => rfl) rfl ?_
  exact ⟨rfl, rfl, rfl⟩
set_option maxRecDepth 100000 in
theorem m_291i (hb : b < 6) (hf : C.1 78 b = 1) (hn : C.1 117 b = nI nn) (h4 : nn ≤ 40) (hk : k < nn) (hw : C.1 80 b = nI w) (h6 : w ≤ 6) : Wd L xs (d + 1) y_291 (0, [(0, .ref 176), (1, .int (nI b)), (2, .int (nI k)), (3, .int (-1))], [], MH C t, sl) (Rt (some (.long (C.1 115 (40 * b + k)).toInt64)) (MH (sI C 76 0 0) t) sl) nX := by
  refine w_p (pc1 := 1) rfl rfl ?_
  refine w_p (pc1 := 2) rfl rfl ?_
  refine w_p (pc1 := 3) (st1 := .long 0 :: _) rfl rfl ?_
  refine w_m0 (pc1 := 6) (st1 := .long 5 :: _) rfl rfl rfl rfl ?_
  refine w_je (pc1 := 9) (vs := [_, .long 0, .long 5]) (rest := []) (st1 := [.int 1]) (m_189t (d := d) (sl := 0) (isIn_t (x := nI b) (m := 0) (n := 5) rfl rfl (by rw [nK_int (by omega)]; omega) (by rw [nK_int (by omega)]; omega))) rfl rfl rfl (fun _ _ => rfl) rfl (by exact cl_s my_189 rfl rfl rfl (Nat.le_of_ble_eq_true rfl) rfl rfl) (by rfl) (Nat.le_of_ble_eq_true rfl) (Nat.le_of_ble_eq_true rfl) rfl (by rfl) ?_
  refine w_f (a := 63) (b := 12) rfl rfl rfl ?_
  refine w_p (pc1 := 13) rfl rfl ?_
  refine w_m0 (pc1 := 16) rfl rfl (h_gC rfl rfl rfl rfl) rfl ?_
  refine w_p (pc1 := 17) rfl rfl ?_
  refine w_m0 (pc1 := 18) (st1 := .int 1 :: _) rfl rfl (n_ble (e := b) rfl rfl (by decide) rfl (by omega) (hf)) rfl ?_
  refine w_f (a := 63) (b := 21) rfl rfl rfl ?_
  refine w_p (pc1 := 22) rfl rfl ?_
  refine w_p (pc1 := 23) rfl rfl ?_
  refine w_p (pc1 := 24) (st1 := .long 0 :: _) rfl rfl ?_
  refine w_p (pc1 := 25) rfl rfl ?_
  refine w_m0 (pc1 := 28) rfl rfl (h_gC rfl rfl rfl rfl) rfl ?_
  refine w_p (pc1 := 29) rfl rfl ?_
  refine w_m0 (pc1 := 30) (st1 := .int (nI (nn)) :: _) rfl rfl (n_ile (e := b) rfl rfl rfl (by omega) (hn)) rfl ?_
  refine w_p (pc1 := 31) (st1 := .int 1 :: _) rfl rfl ?_
  refine w_isub (pc1 := 32) (z := nI nn - 1) rfl (rfl) rfl ?_
  refine w_p (pc1 := 33) rfl rfl ?_
  refine w_je (pc1 := 36) (vs := [_, .long 0, _]) (rest := []) (st1 := [.int 1]) (m_189t (d := d) (sl := 0) (isIn_t (x := nI k) (m := 0) (n := (nn : Int) - 1) rfl (sb1 (by omega)) (by rw [nK_int (by omega)]; omega) (by rw [nK_int (by omega)]; omega))) rfl rfl rfl (fun _ _ => rfl) rfl (by exact cl_s my_189 rfl rfl rfl (Nat.le_of_ble_eq_true rfl) rfl rfl) (by rfl) (Nat.le_of_ble_eq_true rfl) (Nat.le_of_ble_eq_true rfl) rfl (by rfl) ?_
  refine w_f (a := 63) (b := 39) rfl rfl rfl ?_
  refine w_p (pc1 := 40) rfl rfl ?_
  refine w_p (pc1 := 41) (st1 := .long (-1) :: _) rfl rfl ?_
  refine w_m0 (pc1 := 44) (st1 := .long (-1) :: _) rfl rfl rfl rfl ?_
  refine w_p (pc1 := 45) rfl rfl ?_
  refine w_m0 (pc1 := 48) rfl rfl (h_gC rfl rfl rfl rfl) rfl ?_
  refine w_p (pc1 := 49) rfl rfl ?_
  refine w_m0 (pc1 := 50) (st1 := .int (nI (w)) :: _) rfl rfl (n_ile (e := b) rfl rfl rfl (by omega) (hw)) rfl ?_
  refine w_p (pc1 := 51) (st1 := .int 1 :: _) rfl rfl ?_
  refine w_isub (pc1 := 52) (z := nI w - 1) rfl (rfl) rfl ?_
  refine w_p (pc1 := 53) rfl rfl ?_
  refine w_je (pc1 := 56) (vs := [.long (-1), .long (-1), _]) (rest := []) (st1 := [.int 1]) (m_189t (d := d) (sl := 0) (isIn_t (x := -1) (m := -1) (n := (w : Int) - 1) rfl (sb1 (by omega)) (by decide) (by have e : (-1 : Int32).toInt = -1 := rfl; omega))) rfl rfl rfl (fun _ _ => rfl) rfl (by exact cl_s my_189 rfl rfl rfl (Nat.le_of_ble_eq_true rfl) rfl rfl) (by rfl) (Nat.le_of_ble_eq_true rfl) (Nat.le_of_ble_eq_true rfl) rfl (by rfl) ?_
  refine w_f (a := 63) (b := 59) rfl rfl rfl ?_
  refine w_p (pc1 := 60) (st1 := .int 1 :: _) rfl rfl ?_
  refine w_p (pc1 := 64) rfl rfl ?_
  refine w_p (pc1 := 66) (al1 := [(4, .int 1), (0, .ref 176), (1, .int (nI (b))), (2, .int (nI (k))), (3, .int (-1))]) rfl rfl ?_
  refine w_p (pc1 := 67) rfl rfl ?_
  refine w_p (pc1 := 69) rfl rfl ?_
  refine w_p (pc1 := 70) (st1 := .int 1 :: _) rfl rfl ?_
  refine w_je (pc1 := 73) (vs := [.ref 176, .int 1, .int 1]) (rest := []) (st1 := [.int 1]) (m_190 (d := d) (sl := 0)) rfl rfl rfl (fun _ _ => rfl) rfl (by exact cl_v my_190 rfl rfl rfl (Nat.le_of_ble_eq_true rfl) rfl (MH_obj rfl rfl) rfl (by decide) rfl rfl) (by rfl) (Nat.le_of_ble_eq_true rfl) (Nat.le_of_ble_eq_true rfl) rfl (by rfl) ?_
  refine w_t (a := 78) (b := 76) rfl rfl rfl ?_
  refine w_p (pc1 := 79) rfl rfl ?_
  refine w_p (pc1 := 80) (st1 := .int (-1) :: _) rfl rfl ?_
  refine w_f (a := 98) (b := 83) rfl rfl rfl ?_
  refine w_p (pc1 := 84) rfl rfl ?_
  refine w_m0 (pc1 := 87) rfl rfl (h_gC rfl rfl rfl rfl) rfl ?_
  refine w_p (pc1 := 89) (st1 := .int 40 :: _) rfl rfl ?_
  refine w_p (pc1 := 90) rfl rfl ?_
  refine w_imul (pc1 := 91) (u := nI (40)) (v := nI (b)) (z := nI (40 * b)) rfl (nK_mul) rfl ?_
  refine w_p (pc1 := 92) rfl rfl ?_
  refine w_iadd (pc1 := 93) (u := nI (40 * b)) (v := nI (k)) (z := nI (40 * b + k)) rfl (nK_add) rfl ?_
  refine w_m0 (pc1 := 94) rfl rfl (n_il (e := 40 * b + k) rfl rfl rfl (by omega)) rfl ?_
  refine w_p (pc1 := 95) rfl rfl ?_
  refine w_p (pc1 := 105) rfl rfl ?_
  refine w_r rfl rfl rfl (fun _ _ => rfl) rfl ?_
  exact ⟨rfl, rfl, rfl⟩
set_option maxRecDepth 100000 in
theorem m_291v (hb : b < 6) (hf : C.1 78 b = 1) (hn : C.1 117 b = nI nn) (h4 : nn ≤ 40) (hk : k < nn) (hw : C.1 80 b = nI w) (h6 : w ≤ 6) (hc : c < w) : Wd L xs (d + 1) y_291 (0, [(0, .ref 176), (1, .int (nI b)), (2, .int (nI k)), (3, .int (nI c))], [], MH C t, sl) (Rt (some (.long (C.2.1 116 ((b * 40 + k) * 6 + c)))) (MH (sI C 76 0 0) t) sl) nX := by
  have hk2 := nK_int (k := c) (by omega)
  have hz : nI c ≠ -1 := fun e => by
    have := congrArg Int32.toInt e
    rw [hk2] at this
    have e1 : (-1 : Int32).toInt = -1 := rfl
    omega
  refine w_p (pc1 := 1) rfl rfl ?_
  refine w_p (pc1 := 2) rfl rfl ?_
  refine w_p (pc1 := 3) (st1 := .long 0 :: _) rfl rfl ?_
  refine w_m0 (pc1 := 6) (st1 := .long 5 :: _) rfl rfl rfl rfl ?_
  refine w_je (pc1 := 9) (vs := [_, .long 0, .long 5]) (rest := []) (st1 := [.int 1]) (m_189t (d := d) (sl := 0) (isIn_t (x := nI b) (m := 0) (n := 5) rfl rfl (by rw [nK_int (by omega)]; omega) (by rw [nK_int (by omega)]; omega))) rfl rfl rfl (fun _ _ => rfl) rfl (by exact cl_s my_189 rfl rfl rfl (Nat.le_of_ble_eq_true rfl) rfl rfl) (by rfl) (Nat.le_of_ble_eq_true rfl) (Nat.le_of_ble_eq_true rfl) rfl (by rfl) ?_
  refine w_f (a := 63) (b := 12) rfl rfl rfl ?_
  refine w_p (pc1 := 13) rfl rfl ?_
  refine w_m0 (pc1 := 16) rfl rfl (h_gC rfl rfl rfl rfl) rfl ?_
  refine w_p (pc1 := 17) rfl rfl ?_
  refine w_m0 (pc1 := 18) (st1 := .int 1 :: _) rfl rfl (n_ble (e := b) rfl rfl (by decide) rfl (by omega) (hf)) rfl ?_
  refine w_f (a := 63) (b := 21) rfl rfl rfl ?_
  refine w_p (pc1 := 22) rfl rfl ?_
  refine w_p (pc1 := 23) rfl rfl ?_
  refine w_p (pc1 := 24) (st1 := .long 0 :: _) rfl rfl ?_
  refine w_p (pc1 := 25) rfl rfl ?_
  refine w_m0 (pc1 := 28) rfl rfl (h_gC rfl rfl rfl rfl) rfl ?_
  refine w_p (pc1 := 29) rfl rfl ?_
  refine w_m0 (pc1 := 30) (st1 := .int (nI (nn)) :: _) rfl rfl (n_ile (e := b) rfl rfl rfl (by omega) (hn)) rfl ?_
  refine w_p (pc1 := 31) (st1 := .int 1 :: _) rfl rfl ?_
  refine w_isub (pc1 := 32) (z := nI nn - 1) rfl (rfl) rfl ?_
  refine w_p (pc1 := 33) rfl rfl ?_
  refine w_je (pc1 := 36) (vs := [_, .long 0, _]) (rest := []) (st1 := [.int 1]) (m_189t (d := d) (sl := 0) (isIn_t (x := nI k) (m := 0) (n := (nn : Int) - 1) rfl (sb1 (by omega)) (by rw [nK_int (by omega)]; omega) (by rw [nK_int (by omega)]; omega))) rfl rfl rfl (fun _ _ => rfl) rfl (by exact cl_s my_189 rfl rfl rfl (Nat.le_of_ble_eq_true rfl) rfl rfl) (by rfl) (Nat.le_of_ble_eq_true rfl) (Nat.le_of_ble_eq_true rfl) rfl (by rfl) ?_
  refine w_f (a := 63) (b := 39) rfl rfl rfl ?_
  refine w_p (pc1 := 40) rfl rfl ?_
  refine w_p (pc1 := 41) rfl rfl ?_
  refine w_m0 (pc1 := 44) (st1 := .long (-1) :: _) rfl rfl rfl rfl ?_
  refine w_p (pc1 := 45) rfl rfl ?_
  refine w_m0 (pc1 := 48) rfl rfl (h_gC rfl rfl rfl rfl) rfl ?_
  refine w_p (pc1 := 49) rfl rfl ?_
  refine w_m0 (pc1 := 50) (st1 := .int (nI (w)) :: _) rfl rfl (n_ile (e := b) rfl rfl rfl (by omega) (hw)) rfl ?_
  refine w_p (pc1 := 51) (st1 := .int 1 :: _) rfl rfl ?_
  refine w_isub (pc1 := 52) (z := nI w - 1) rfl (rfl) rfl ?_
  refine w_p (pc1 := 53) rfl rfl ?_
  refine w_je (pc1 := 56) (vs := [_, .long (-1), _]) (rest := []) (st1 := [.int 1]) (m_189t (d := d) (sl := 0) (isIn_t (x := nI c) (m := -1) (n := (w : Int) - 1) rfl (sb1 (by omega)) (by rw [nK_int (by omega)]; omega) (by rw [nK_int (by omega)]; omega))) rfl rfl rfl (fun _ _ => rfl) rfl (by exact cl_s my_189 rfl rfl rfl (Nat.le_of_ble_eq_true rfl) rfl rfl) (by rfl) (Nat.le_of_ble_eq_true rfl) (Nat.le_of_ble_eq_true rfl) rfl (by rfl) ?_
  refine w_f (a := 63) (b := 59) rfl rfl rfl ?_
  refine w_p (pc1 := 60) (st1 := .int 1 :: _) rfl rfl ?_
  refine w_p (pc1 := 64) rfl rfl ?_
  refine w_p (pc1 := 66) (al1 := [(4, .int 1), (0, .ref 176), (1, .int (nI (b))), (2, .int (nI (k))), (3, .int (nI (c)))]) rfl rfl ?_
  refine w_p (pc1 := 67) rfl rfl ?_
  refine w_p (pc1 := 69) rfl rfl ?_
  refine w_p (pc1 := 70) (st1 := .int 1 :: _) rfl rfl ?_
  refine w_je (pc1 := 73) (vs := [.ref 176, .int 1, .int 1]) (rest := []) (st1 := [.int 1]) (m_190 (d := d) (sl := 0)) rfl rfl rfl (fun _ _ => rfl) rfl (by exact cl_v my_190 rfl rfl rfl (Nat.le_of_ble_eq_true rfl) rfl (MH_obj rfl rfl) rfl (by decide) rfl rfl) (by rfl) (Nat.le_of_ble_eq_true rfl) (Nat.le_of_ble_eq_true rfl) rfl (by rfl) ?_
  refine w_t (a := 78) (b := 76) rfl rfl rfl ?_
  refine w_p (pc1 := 79) rfl rfl ?_
  refine w_p (pc1 := 80) (st1 := .int (-1) :: _) rfl rfl ?_
  refine w_t (a := 98) (b := 83) (cb_ne_t (by exact hz)) rfl rfl ?_
  refine w_p (pc1 := 99) rfl rfl ?_
  refine w_p (pc1 := 100) rfl rfl ?_
  refine w_p (pc1 := 101) rfl rfl ?_
  refine w_p (pc1 := 102) rfl rfl ?_
  refine w_je (pc1 := 105) (vs := [.ref 176, .int (nI (b)), .int (nI (k)), .int (nI (c))]) (rest := []) (st1 := [.long (C.2.1 116 ((b * 40 + k) * 6 + c))]) (m_263 (d := d) (sl := 0) (C := sI C 76 0 0) (k := k) (c := c) hb (by omega) (by omega)) rfl rfl rfl (fun _ _ => rfl) rfl (by exact cl_v my_263 rfl rfl rfl (Nat.le_of_ble_eq_true rfl) rfl (MH_obj rfl rfl) rfl (by decide) rfl rfl) (by rfl) (Nat.le_of_ble_eq_true rfl) (Nat.le_of_ble_eq_true rfl) rfl (by rfl) ?_
  refine w_r rfl rfl rfl (fun _ _ => rfl) rfl ?_
  exact ⟨rfl, rfl, rfl⟩
end MTA
