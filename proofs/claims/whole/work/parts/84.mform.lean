/-! THE OTHER SIDE'S FORMULAS, 1: its small steps -/
section MFS
variable {L : Nat} {xs : Nat → Int32} {C : co_T} {t : ab_H} {d sl k u p q : Nat}
def psC (C : co_T) (k : Nat) (a : Int32) (v : Int64) : co_T := sI (sJ (sI C 108 k a) 109 k v) 76 52 (nI (k + 1))
def stC (C : co_T) (p u : Nat) (a : Int32) (v : Int64) : co_T := sI (sJ (sI C 106 (620 * p + u) a) 107 (620 * p + u) v) 76 41 (nI (u + 1))
set_option maxRecDepth 100000 in
theorem m_224 {a : Int32} {v : Int64} (hk : C.1 76 52 = nI k) (h7 : k < 700) : Wd L xs d y_224 (0, [(0, .ref 176), (1, .int a), (2, .long v)], [], MH C t, sl) (Rt none (MH (psC C k a v) t) sl) nX := by
  refine w_p (pc1 := 1) rfl rfl ?_
  refine w_m0 (pc1 := 4) rfl rfl (h_gC rfl rfl rfl rfl) rfl ?_
  refine w_p (pc1 := 5) rfl rfl ?_
  refine w_m0 (pc1 := 8) (st1 := .int (nI (k)) :: _) rfl rfl (h_gIe (j := 52) rfl rfl rfl rfl rfl (hk)) rfl ?_
  refine w_p (pc1 := 9) rfl rfl ?_
  refine w_m0 (pc1 := 10) rfl rfl (n_is (e := k) rfl rfl rfl (by omega)) rfl ?_
  refine w_p (pc1 := 11) rfl rfl ?_
  refine w_m0 (pc1 := 14) rfl rfl (h_gC rfl rfl rfl rfl) rfl ?_
  refine w_p (pc1 := 15) rfl rfl ?_
  refine w_m0 (pc1 := 18) (st1 := .int (nI (k)) :: _) rfl rfl (h_gIe (j := 52) rfl rfl rfl rfl rfl (hk)) rfl ?_
  refine w_p (pc1 := 19) rfl rfl ?_
  refine w_m0 (pc1 := 20) rfl rfl (n_ls (e := k) rfl rfl rfl (by omega)) rfl ?_
  refine w_p (pc1 := 21) rfl rfl ?_
  refine w_p (pc1 := 22) rfl rfl ?_
  refine w_m0 (pc1 := 25) (st1 := .int (nI (k)) :: _) rfl rfl (h_gIe (j := 52) rfl rfl rfl rfl rfl (hk)) rfl ?_
  refine w_p (pc1 := 26) (st1 := .int 1 :: _) rfl rfl ?_
  refine w_iadd (pc1 := 27) (u := nI (k)) (v := nI (1)) (z := nI (k + 1)) rfl (nK_add) rfl ?_
  refine w_m0 (pc1 := 30) rfl rfl (h_pI (j := 52) rfl rfl rfl rfl rfl rfl rfl ⟨rfl, rfl⟩ rfl) rfl ?_
  refine w_r rfl rfl rfl (fun _ _ => rfl) rfl ?_
  exact ⟨rfl, rfl, rfl⟩
set_option maxRecDepth 100000 in
theorem m_233 (hk : C.1 76 52 = nI (k + 1)) (h7 : k < 700) : Wd L xs d y_233 (0, [(0, .ref 176)], [], MH C t, sl) (Rt (some (.int (C.1 108 k))) (MH C t) sl) nX := by
  refine w_p (pc1 := 1) rfl rfl ?_
  refine w_m0 (pc1 := 4) rfl rfl (h_gC rfl rfl rfl rfl) rfl ?_
  refine w_p (pc1 := 5) rfl rfl ?_
  refine w_m0 (pc1 := 8) (st1 := .int (nI (k + 1)) :: _) rfl rfl (h_gIe (j := 52) rfl rfl rfl rfl rfl (hk)) rfl ?_
  refine w_p (pc1 := 9) (st1 := .int 1 :: _) rfl rfl ?_
  refine w_isub (pc1 := 10) (u := nI (k + 1)) (v := nI (1)) (z := nI (k + 1 - 1)) rfl (nK_sub (by omega)) rfl ?_
  refine w_m0 (pc1 := 11) rfl rfl (n_il (e := k + 1 - 1) rfl rfl rfl (by omega)) rfl ?_
  refine w_r rfl rfl rfl (fun _ _ => rfl) cr_int ?_
  exact ⟨rfl, rfl, rfl⟩
set_option maxRecDepth 100000 in
theorem m_230 {a : Int32} {v : Int64} (hp : C.1 76 40 = nI p) (hp4 : p ≤ 40) (hu : C.1 76 41 = nI u) (h6 : u < 619) : Wd L xs d y_230 (0, [(0, .ref 176), (1, .int a), (2, .long v)], [], MH C t, sl) (Rt none (MH (stC C p u a v) t) sl) nX := by
  refine w_p (pc1 := 1) rfl rfl ?_
  refine w_m0 (pc1 := 4) (st1 := .int (nI (u)) :: _) rfl rfl (h_gIe (j := 41) rfl rfl rfl rfl rfl (hu)) rfl ?_
  refine w_p (pc1 := 7) (st1 := .int 619 :: _) rfl rfl ?_
  refine w_f (a := 58) (b := 10) (bN_ge_f (a := u) (b := 619) (by omega) (by omega) (by omega)) rfl rfl ?_
  refine w_p (pc1 := 11) rfl rfl ?_
  refine w_m0 (pc1 := 14) rfl rfl (h_gC rfl rfl rfl rfl) rfl ?_
  refine w_p (pc1 := 17) (st1 := .int 620 :: _) rfl rfl ?_
  refine w_p (pc1 := 18) rfl rfl ?_
  refine w_m0 (pc1 := 21) (st1 := .int (nI (p)) :: _) rfl rfl (h_gIe (j := 40) rfl rfl rfl rfl rfl (hp)) rfl ?_
  refine w_imul (pc1 := 22) (u := nI (620)) (v := nI (p)) (z := nI (620 * p)) rfl (nK_mul) rfl ?_
  refine w_p (pc1 := 23) rfl rfl ?_
  refine w_m0 (pc1 := 26) (st1 := .int (nI (u)) :: _) rfl rfl (h_gIe (j := 41) rfl rfl rfl rfl rfl (hu)) rfl ?_
  refine w_iadd (pc1 := 27) (u := nI (620 * p)) (v := nI (u)) (z := nI (620 * p + u)) rfl (nK_add) rfl ?_
  refine w_p (pc1 := 28) rfl rfl ?_
  refine w_m0 (pc1 := 29) rfl rfl (n_is (e := 620 * p + u) rfl rfl rfl (by omega)) rfl ?_
  refine w_p (pc1 := 30) rfl rfl ?_
  refine w_m0 (pc1 := 33) rfl rfl (h_gC rfl rfl rfl rfl) rfl ?_
  refine w_p (pc1 := 36) (st1 := .int 620 :: _) rfl rfl ?_
  refine w_p (pc1 := 37) rfl rfl ?_
  refine w_m0 (pc1 := 40) (st1 := .int (nI (p)) :: _) rfl rfl (h_gIe (j := 40) rfl rfl rfl rfl rfl (hp)) rfl ?_
  refine w_imul (pc1 := 41) (u := nI (620)) (v := nI (p)) (z := nI (620 * p)) rfl (nK_mul) rfl ?_
  refine w_p (pc1 := 42) rfl rfl ?_
  refine w_m0 (pc1 := 45) (st1 := .int (nI (u)) :: _) rfl rfl (h_gIe (j := 41) rfl rfl rfl rfl rfl (hu)) rfl ?_
  refine w_iadd (pc1 := 46) (u := nI (620 * p)) (v := nI (u)) (z := nI (620 * p + u)) rfl (nK_add) rfl ?_
  refine w_p (pc1 := 47) rfl rfl ?_
  refine w_m0 (pc1 := 48) rfl rfl (n_ls (e := 620 * p + u) rfl rfl rfl (by omega)) rfl ?_
  refine w_p (pc1 := 49) rfl rfl ?_
  refine w_p (pc1 := 50) rfl rfl ?_
  refine w_m0 (pc1 := 53) (st1 := .int (nI (u)) :: _) rfl rfl (h_gIe (j := 41) rfl rfl rfl rfl rfl (hu)) rfl ?_
  refine w_p (pc1 := 54) (st1 := .int 1 :: _) rfl rfl ?_
  refine w_iadd (pc1 := 55) (u := nI (u)) (v := nI (1)) (z := nI (u + 1)) rfl (nK_add) rfl ?_
  refine w_m0 (pc1 := 58) rfl rfl (h_pI (j := 41) rfl rfl rfl rfl rfl rfl rfl ⟨rfl, rfl⟩ rfl) rfl ?_
  refine w_r rfl rfl rfl (fun _ _ => rfl) rfl ?_
  exact ⟨rfl, rfl, rfl⟩
set_option maxRecDepth 100000 in
theorem m_225y (hq : C.1 76 45 = nI q) (h : q < 10) : Wd L xs d y_225 (0, [(0, .ref 176)], [], MH C t, sl) (Rt none (MH (sI C 76 45 (nI (q + 1))) t) sl) nX := by
  refine w_p (pc1 := 1) rfl rfl ?_
  refine w_p (pc1 := 2) rfl rfl ?_
  refine w_m0 (pc1 := 5) (st1 := .int (nI (q)) :: _) rfl rfl (h_gIe (j := 45) rfl rfl rfl rfl rfl (hq)) rfl ?_
  refine w_p (pc1 := 6) (st1 := .int 1 :: _) rfl rfl ?_
  refine w_iadd (pc1 := 7) (u := nI (q)) (v := nI (1)) (z := nI (q + 1)) rfl (nK_add) rfl ?_
  refine w_m0 (pc1 := 10) rfl rfl (h_pI (j := 45) rfl rfl rfl rfl rfl rfl rfl ⟨rfl, rfl⟩ rfl) rfl ?_
  refine w_p (pc1 := 11) rfl rfl ?_
  refine w_m0 (pc1 := 14) (st1 := .int (nI (q + 1)) :: _) rfl rfl (h_gIe (j := 45) rfl rfl rfl rfl rfl (rfl)) rfl ?_
  refine w_p (pc1 := 16) (st1 := .int 10 :: _) rfl rfl ?_
  refine w_t (a := 25) (b := 19) (bN_le_t (a := q + 1) (b := 10) (by omega) (by omega) (by omega)) rfl rfl ?_
  refine w_r rfl rfl rfl (fun _ _ => rfl) rfl ?_
  exact ⟨rfl, rfl, rfl⟩
set_option maxRecDepth 100000 in
theorem m_225n (hq : C.1 76 45 = nI q) (h : 10 ≤ q) (h2 : q < 1000) (hL : orL C 6 (C.1 76 5)) : Wd L xs (d + 2) y_225 (0, [(0, .ref 176)], [], MH C t, sl) (Rt none (MH (fl_ (sI C 76 45 (nI (q + 1))) 6 (C.1 76 5)) t) sl) nX := by
  refine w_p (pc1 := 1) rfl rfl ?_
  refine w_p (pc1 := 2) rfl rfl ?_
  refine w_m0 (pc1 := 5) (st1 := .int (nI (q)) :: _) rfl rfl (h_gIe (j := 45) rfl rfl rfl rfl rfl (hq)) rfl ?_
  refine w_p (pc1 := 6) (st1 := .int 1 :: _) rfl rfl ?_
  refine w_iadd (pc1 := 7) (u := nI (q)) (v := nI (1)) (z := nI (q + 1)) rfl (nK_add) rfl ?_
  refine w_m0 (pc1 := 10) rfl rfl (h_pI (j := 45) rfl rfl rfl rfl rfl rfl rfl ⟨rfl, rfl⟩ rfl) rfl ?_
  refine w_p (pc1 := 11) rfl rfl ?_
  refine w_m0 (pc1 := 14) (st1 := .int (nI (q + 1)) :: _) rfl rfl (h_gIe (j := 45) rfl rfl rfl rfl rfl (rfl)) rfl ?_
  refine w_p (pc1 := 16) (st1 := .int 10 :: _) rfl rfl ?_
  refine w_f (a := 25) (b := 19) (bN_le_f (a := q + 1) (b := 10) (by omega) (by omega) (by omega)) rfl rfl ?_
  refine w_p (pc1 := 20) rfl rfl ?_
  refine w_p (pc1 := 22) (st1 := .int 6 :: _) rfl rfl ?_
  refine w_je (pc1 := 25) (vs := [.ref 176, .int 6]) (rest := []) (st1 := []) (m_200 (d := _) (sl := 0) (C := sI C 76 45 (nI (q + 1))) hL) rfl rfl rfl (fun _ _ => rfl) rfl (by exact cl_v my_200 rfl rfl rfl (Nat.le_of_ble_eq_true rfl) rfl (MH_obj rfl rfl) rfl (by decide) rfl rfl) (by rfl) (Nat.le_of_ble_eq_true rfl) (Nat.le_of_ble_eq_true rfl) rfl (by rfl) ?_
  refine w_r rfl rfl rfl (fun _ _ => rfl) rfl ?_
  exact ⟨rfl, rfl, rfl⟩
set_option maxRecDepth 100000 in
theorem m_226n (hk : C.1 76 44 = 0) : Wd L xs d y_226 (0, [(0, .ref 176)], [], MH C t, sl) (Rt none (MH C t) sl) nX := by
  refine w_p (pc1 := 1) rfl rfl ?_
  refine w_m0 (pc1 := 4) (st1 := .int 0 :: _) rfl rfl (h_gIe (j := 44) rfl rfl rfl rfl rfl (hk)) rfl ?_
  refine w_t (a := 38) (b := 7) rfl rfl rfl ?_
  refine w_r rfl rfl rfl (fun _ _ => rfl) rfl ?_
  exact ⟨rfl, rfl, rfl⟩
set_option maxRecDepth 100000 in
theorem m_226y (hk : C.1 76 44 = 1) (hu : C.1 76 42 = nI u) (hp : C.1 76 43 = nI p) (h : p + u < 400) : Wd L xs d y_226 (0, [(0, .ref 176)], [], MH C t, sl) (Rt none (MH (sI C 76 42 (nI (u + 1))) t) sl) nX := by
  refine w_p (pc1 := 1) rfl rfl ?_
  refine w_m0 (pc1 := 4) (st1 := .int 1 :: _) rfl rfl (h_gIe (j := 44) rfl rfl rfl rfl rfl (hk)) rfl ?_
  refine w_f (a := 38) (b := 7) rfl rfl rfl ?_
  refine w_p (pc1 := 8) rfl rfl ?_
  refine w_p (pc1 := 9) rfl rfl ?_
  refine w_m0 (pc1 := 12) (st1 := .int (nI (u)) :: _) rfl rfl (h_gIe (j := 42) rfl rfl rfl rfl rfl (hu)) rfl ?_
  refine w_p (pc1 := 13) (st1 := .int 1 :: _) rfl rfl ?_
  refine w_iadd (pc1 := 14) (u := nI (u)) (v := nI (1)) (z := nI (u + 1)) rfl (nK_add) rfl ?_
  refine w_m0 (pc1 := 17) rfl rfl (h_pI (j := 42) rfl rfl rfl rfl rfl rfl rfl ⟨rfl, rfl⟩ rfl) rfl ?_
  refine w_p (pc1 := 18) rfl rfl ?_
  refine w_m0 (pc1 := 21) (st1 := .int (nI (p)) :: _) rfl rfl (h_gIe (j := 43) rfl rfl rfl rfl rfl (hp)) rfl ?_
  refine w_p (pc1 := 22) rfl rfl ?_
  refine w_m0 (pc1 := 25) (st1 := .int (nI (u + 1)) :: _) rfl rfl (h_gIe (j := 42) rfl rfl rfl rfl rfl (rfl)) rfl ?_
  refine w_iadd (pc1 := 26) (u := nI (p)) (v := nI (u + 1)) (z := nI (p + (u + 1))) rfl (nK_add) rfl ?_
  refine w_p (pc1 := 29) (st1 := .int 400 :: _) rfl rfl ?_
  refine w_t (a := 38) (b := 32) (bN_le_t (a := p + (u + 1)) (b := 400) (by omega) (by omega) (by omega)) rfl rfl ?_
  refine w_r rfl rfl rfl (fun _ _ => rfl) rfl ?_
  exact ⟨rfl, rfl, rfl⟩
set_option maxRecDepth 100000 in
theorem m_226f (hk : C.1 76 44 = 1) (hu : C.1 76 42 = nI u) (hp : C.1 76 43 = nI p) (h : 400 ≤ p + u) (h2 : p + u < 10000) (hL : orL C 6 (C.1 76 5)) : Wd L xs (d + 2) y_226 (0, [(0, .ref 176)], [], MH C t, sl) (Rt none (MH (fl_ (sI C 76 42 (nI (u + 1))) 6 (C.1 76 5)) t) sl) nX := by
  refine w_p (pc1 := 1) rfl rfl ?_
  refine w_m0 (pc1 := 4) (st1 := .int 1 :: _) rfl rfl (h_gIe (j := 44) rfl rfl rfl rfl rfl (hk)) rfl ?_
  refine w_f (a := 38) (b := 7) rfl rfl rfl ?_
  refine w_p (pc1 := 8) rfl rfl ?_
  refine w_p (pc1 := 9) rfl rfl ?_
  refine w_m0 (pc1 := 12) (st1 := .int (nI (u)) :: _) rfl rfl (h_gIe (j := 42) rfl rfl rfl rfl rfl (hu)) rfl ?_
  refine w_p (pc1 := 13) (st1 := .int 1 :: _) rfl rfl ?_
  refine w_iadd (pc1 := 14) (u := nI (u)) (v := nI (1)) (z := nI (u + 1)) rfl (nK_add) rfl ?_
  refine w_m0 (pc1 := 17) rfl rfl (h_pI (j := 42) rfl rfl rfl rfl rfl rfl rfl ⟨rfl, rfl⟩ rfl) rfl ?_
  refine w_p (pc1 := 18) rfl rfl ?_
  refine w_m0 (pc1 := 21) (st1 := .int (nI (p)) :: _) rfl rfl (h_gIe (j := 43) rfl rfl rfl rfl rfl (hp)) rfl ?_
  refine w_p (pc1 := 22) rfl rfl ?_
  refine w_m0 (pc1 := 25) (st1 := .int (nI (u + 1)) :: _) rfl rfl (h_gIe (j := 42) rfl rfl rfl rfl rfl (rfl)) rfl ?_
  refine w_iadd (pc1 := 26) (u := nI (p)) (v := nI (u + 1)) (z := nI (p + (u + 1))) rfl (nK_add) rfl ?_
  refine w_p (pc1 := 29) (st1 := .int 400 :: _) rfl rfl ?_
  refine w_f (a := 38) (b := 32) (bN_le_f (a := p + (u + 1)) (b := 400) (by omega) (by omega) (by omega)) rfl rfl ?_
  refine w_p (pc1 := 33) rfl rfl ?_
  refine w_p (pc1 := 35) (st1 := .int 6 :: _) rfl rfl ?_
  refine w_je (pc1 := 38) (vs := [.ref 176, .int 6]) (rest := []) (st1 := []) (m_200 (d := _) (sl := 0) (C := sI C 76 42 (nI (u + 1))) hL) rfl rfl rfl (fun _ _ => rfl) rfl (by exact cl_v my_200 rfl rfl rfl (Nat.le_of_ble_eq_true rfl) rfl (MH_obj rfl rfl) rfl (by decide) rfl rfl) (by rfl) (Nat.le_of_ble_eq_true rfl) (Nat.le_of_ble_eq_true rfl) rfl (by rfl) ?_
  refine w_r rfl rfl rfl (fun _ _ => rfl) rfl ?_
  exact ⟨rfl, rfl, rfl⟩
set_option maxRecDepth 100000 in
theorem m_234_3 (ho : C.1 76 45 = nI (q + 1)) (hk : C.1 76 52 = nI (k + 1)) (h7 : k < 700) (hp : C.1 76 40 = nI p) (hp4 : p ≤ 40) (hu : C.1 76 41 = nI u) (h6 : u < 619) (hw : C.1 108 k = 3) : Wd L xs (d + 1) y_234 (0, [(0, .ref 176)], [], MH C t, sl) (Rt none (MH (stC (sI (sI C 76 52 (nI k)) 76 45 (nI q)) p u 6 0) t) sl) nX := by
  refine w_p (pc1 := 1) rfl rfl ?_
  refine w_p (pc1 := 2) rfl rfl ?_
  refine w_m0 (pc1 := 5) (st1 := .int (nI (k + 1)) :: _) rfl rfl (h_gIe (j := 52) rfl rfl rfl rfl rfl (hk)) rfl ?_
  refine w_p (pc1 := 6) (st1 := .int 1 :: _) rfl rfl ?_
  refine w_isub (pc1 := 7) (u := nI (k + 1)) (v := nI (1)) (z := nI (k + 1 - 1)) rfl (nK_sub (by omega)) rfl ?_
  refine w_m0 (pc1 := 10) rfl rfl (h_pI (j := 52) rfl rfl rfl rfl rfl rfl rfl ⟨rfl, rfl⟩ rfl) rfl ?_
  refine w_p (pc1 := 11) rfl rfl ?_
  refine w_m0 (pc1 := 14) rfl rfl (h_gC rfl rfl rfl rfl) rfl ?_
  refine w_p (pc1 := 15) rfl rfl ?_
  refine w_m0 (pc1 := 18) (st1 := .int (nI (k)) :: _) rfl rfl (h_gIe (j := 52) rfl rfl rfl rfl rfl (rfl)) rfl ?_
  refine w_m0 (pc1 := 19) (st1 := .int 3 :: _) rfl rfl (n_ile (e := k) rfl rfl rfl (by omega) (hw)) rfl ?_
  refine w_p (pc1 := 60) rfl rfl ?_
  refine w_p (pc1 := 61) rfl rfl ?_
  refine w_p (pc1 := 62) rfl rfl ?_
  refine w_m0 (pc1 := 65) (st1 := .int (nI (q + 1)) :: _) rfl rfl (h_gIe (j := 45) rfl rfl rfl rfl rfl (ho)) rfl ?_
  refine w_p (pc1 := 66) (st1 := .int 1 :: _) rfl rfl ?_
  refine w_isub (pc1 := 67) (u := nI (q + 1)) (v := nI (1)) (z := nI (q + 1 - 1)) rfl (nK_sub (by omega)) rfl ?_
  refine w_m0 (pc1 := 70) rfl rfl (h_pI (j := 45) rfl rfl rfl rfl rfl rfl rfl ⟨rfl, rfl⟩ rfl) rfl ?_
  refine w_p (pc1 := 71) rfl rfl ?_
  refine w_p (pc1 := 73) (st1 := .int 6 :: _) rfl rfl ?_
  refine w_p (pc1 := 74) (st1 := .long 0 :: _) rfl rfl ?_
  refine w_je (pc1 := 77) (vs := [.ref 176, .int 6, .long 0]) (rest := []) (st1 := []) (m_230 (d := _) (sl := 0) (C := sI (sI C 76 52 (nI k)) 76 45 (nI q)) (p := p) (u := u) hp hp4 hu h6) rfl rfl rfl (fun _ _ => rfl) rfl (by exact cl_v my_230 rfl rfl rfl (Nat.le_of_ble_eq_true rfl) rfl (MH_obj rfl rfl) rfl (by decide) rfl rfl) (by rfl) (Nat.le_of_ble_eq_true rfl) (Nat.le_of_ble_eq_true rfl) rfl (by rfl) ?_
  refine w_p (pc1 := 135) rfl rfl ?_
  refine w_r rfl rfl rfl (fun _ _ => rfl) rfl ?_
  exact ⟨rfl, rfl, rfl⟩
set_option maxRecDepth 100000 in
theorem m_234_4 (ho : C.1 76 45 = nI (q + 1)) (hk : C.1 76 52 = nI (k + 1)) (h7 : k < 700) (hp : C.1 76 40 = nI p) (hp4 : p ≤ 40) (hu : C.1 76 41 = nI u) (h6 : u < 619) (hw : C.1 108 k = 4) : Wd L xs (d + 1) y_234 (0, [(0, .ref 176)], [], MH C t, sl) (Rt none (MH (stC (sI (sI C 76 52 (nI k)) 76 45 (nI q)) p u 7 0) t) sl) nX := by
  refine w_p (pc1 := 1) rfl rfl ?_
  refine w_p (pc1 := 2) rfl rfl ?_
  refine w_m0 (pc1 := 5) (st1 := .int (nI (k + 1)) :: _) rfl rfl (h_gIe (j := 52) rfl rfl rfl rfl rfl (hk)) rfl ?_
  refine w_p (pc1 := 6) (st1 := .int 1 :: _) rfl rfl ?_
  refine w_isub (pc1 := 7) (u := nI (k + 1)) (v := nI (1)) (z := nI (k + 1 - 1)) rfl (nK_sub (by omega)) rfl ?_
  refine w_m0 (pc1 := 10) rfl rfl (h_pI (j := 52) rfl rfl rfl rfl rfl rfl rfl ⟨rfl, rfl⟩ rfl) rfl ?_
  refine w_p (pc1 := 11) rfl rfl ?_
  refine w_m0 (pc1 := 14) rfl rfl (h_gC rfl rfl rfl rfl) rfl ?_
  refine w_p (pc1 := 15) rfl rfl ?_
  refine w_m0 (pc1 := 18) (st1 := .int (nI (k)) :: _) rfl rfl (h_gIe (j := 52) rfl rfl rfl rfl rfl (rfl)) rfl ?_
  refine w_m0 (pc1 := 19) (st1 := .int 4 :: _) rfl rfl (n_ile (e := k) rfl rfl rfl (by omega) (hw)) rfl ?_
  refine w_p (pc1 := 80) rfl rfl ?_
  refine w_p (pc1 := 81) rfl rfl ?_
  refine w_p (pc1 := 82) rfl rfl ?_
  refine w_m0 (pc1 := 85) (st1 := .int (nI (q + 1)) :: _) rfl rfl (h_gIe (j := 45) rfl rfl rfl rfl rfl (ho)) rfl ?_
  refine w_p (pc1 := 86) (st1 := .int 1 :: _) rfl rfl ?_
  refine w_isub (pc1 := 87) (u := nI (q + 1)) (v := nI (1)) (z := nI (q + 1 - 1)) rfl (nK_sub (by omega)) rfl ?_
  refine w_m0 (pc1 := 90) rfl rfl (h_pI (j := 45) rfl rfl rfl rfl rfl rfl rfl ⟨rfl, rfl⟩ rfl) rfl ?_
  refine w_p (pc1 := 91) rfl rfl ?_
  refine w_p (pc1 := 93) (st1 := .int 7 :: _) rfl rfl ?_
  refine w_p (pc1 := 94) (st1 := .long 0 :: _) rfl rfl ?_
  refine w_je (pc1 := 97) (vs := [.ref 176, .int 7, .long 0]) (rest := []) (st1 := []) (m_230 (d := _) (sl := 0) (C := sI (sI C 76 52 (nI k)) 76 45 (nI q)) (p := p) (u := u) hp hp4 hu h6) rfl rfl rfl (fun _ _ => rfl) rfl (by exact cl_v my_230 rfl rfl rfl (Nat.le_of_ble_eq_true rfl) rfl (MH_obj rfl rfl) rfl (by decide) rfl rfl) (by rfl) (Nat.le_of_ble_eq_true rfl) (Nat.le_of_ble_eq_true rfl) rfl (by rfl) ?_
  refine w_p (pc1 := 135) rfl rfl ?_
  refine w_r rfl rfl rfl (fun _ _ => rfl) rfl ?_
  exact ⟨rfl, rfl, rfl⟩
set_option maxRecDepth 100000 in
theorem m_234_8 (hk : C.1 76 52 = nI (k + 1)) (h7 : k < 700) (hp : C.1 76 40 = nI p) (hp4 : p ≤ 40) (hu : C.1 76 41 = nI u) (h6 : u < 619) (hw : C.1 108 k = 8) : Wd L xs (d + 1) y_234 (0, [(0, .ref 176)], [], MH C t, sl) (Rt none (MH (stC (sI C 76 52 (nI k)) p u 11 0) t) sl) nX := by
  refine w_p (pc1 := 1) rfl rfl ?_
  refine w_p (pc1 := 2) rfl rfl ?_
  refine w_m0 (pc1 := 5) (st1 := .int (nI (k + 1)) :: _) rfl rfl (h_gIe (j := 52) rfl rfl rfl rfl rfl (hk)) rfl ?_
  refine w_p (pc1 := 6) (st1 := .int 1 :: _) rfl rfl ?_
  refine w_isub (pc1 := 7) (u := nI (k + 1)) (v := nI (1)) (z := nI (k + 1 - 1)) rfl (nK_sub (by omega)) rfl ?_
  refine w_m0 (pc1 := 10) rfl rfl (h_pI (j := 52) rfl rfl rfl rfl rfl rfl rfl ⟨rfl, rfl⟩ rfl) rfl ?_
  refine w_p (pc1 := 11) rfl rfl ?_
  refine w_m0 (pc1 := 14) rfl rfl (h_gC rfl rfl rfl rfl) rfl ?_
  refine w_p (pc1 := 15) rfl rfl ?_
  refine w_m0 (pc1 := 18) (st1 := .int (nI (k)) :: _) rfl rfl (h_gIe (j := 52) rfl rfl rfl rfl rfl (rfl)) rfl ?_
  refine w_m0 (pc1 := 19) (st1 := .int 8 :: _) rfl rfl (n_ile (e := k) rfl rfl rfl (by omega) (hw)) rfl ?_
  refine w_p (pc1 := 100) rfl rfl ?_
  refine w_p (pc1 := 101) rfl rfl ?_
  refine w_p (pc1 := 103) (st1 := .int 11 :: _) rfl rfl ?_
  refine w_p (pc1 := 104) (st1 := .long 0 :: _) rfl rfl ?_
  refine w_je (pc1 := 107) (vs := [.ref 176, .int 11, .long 0]) (rest := []) (st1 := []) (m_230 (d := _) (sl := 0) (C := sI C 76 52 (nI k)) (p := p) (u := u) hp hp4 hu h6) rfl rfl rfl (fun _ _ => rfl) rfl (by exact cl_v my_230 rfl rfl rfl (Nat.le_of_ble_eq_true rfl) rfl (MH_obj rfl rfl) rfl (by decide) rfl rfl) (by rfl) (Nat.le_of_ble_eq_true rfl) (Nat.le_of_ble_eq_true rfl) rfl (by rfl) ?_
  refine w_p (pc1 := 135) rfl rfl ?_
  refine w_r rfl rfl rfl (fun _ _ => rfl) rfl ?_
  exact ⟨rfl, rfl, rfl⟩
set_option maxRecDepth 100000 in
theorem m_234_9 (hk : C.1 76 52 = nI (k + 1)) (h7 : k < 700) (hp : C.1 76 40 = nI p) (hp4 : p ≤ 40) (hu : C.1 76 41 = nI u) (h6 : u < 619) (hw : C.1 108 k = 9) : Wd L xs (d + 1) y_234 (0, [(0, .ref 176)], [], MH C t, sl) (Rt none (MH (stC (sI C 76 52 (nI k)) p u 10 0) t) sl) nX := by
  refine w_p (pc1 := 1) rfl rfl ?_
  refine w_p (pc1 := 2) rfl rfl ?_
  refine w_m0 (pc1 := 5) (st1 := .int (nI (k + 1)) :: _) rfl rfl (h_gIe (j := 52) rfl rfl rfl rfl rfl (hk)) rfl ?_
  refine w_p (pc1 := 6) (st1 := .int 1 :: _) rfl rfl ?_
  refine w_isub (pc1 := 7) (u := nI (k + 1)) (v := nI (1)) (z := nI (k + 1 - 1)) rfl (nK_sub (by omega)) rfl ?_
  refine w_m0 (pc1 := 10) rfl rfl (h_pI (j := 52) rfl rfl rfl rfl rfl rfl rfl ⟨rfl, rfl⟩ rfl) rfl ?_
  refine w_p (pc1 := 11) rfl rfl ?_
  refine w_m0 (pc1 := 14) rfl rfl (h_gC rfl rfl rfl rfl) rfl ?_
  refine w_p (pc1 := 15) rfl rfl ?_
  refine w_m0 (pc1 := 18) (st1 := .int (nI (k)) :: _) rfl rfl (h_gIe (j := 52) rfl rfl rfl rfl rfl (rfl)) rfl ?_
  refine w_m0 (pc1 := 19) (st1 := .int 9 :: _) rfl rfl (n_ile (e := k) rfl rfl rfl (by omega) (hw)) rfl ?_
  refine w_p (pc1 := 110) rfl rfl ?_
  refine w_p (pc1 := 111) rfl rfl ?_
  refine w_p (pc1 := 113) (st1 := .int 10 :: _) rfl rfl ?_
  refine w_p (pc1 := 114) (st1 := .long 0 :: _) rfl rfl ?_
  refine w_je (pc1 := 117) (vs := [.ref 176, .int 10, .long 0]) (rest := []) (st1 := []) (m_230 (d := _) (sl := 0) (C := sI C 76 52 (nI k)) (p := p) (u := u) hp hp4 hu h6) rfl rfl rfl (fun _ _ => rfl) rfl (by exact cl_v my_230 rfl rfl rfl (Nat.le_of_ble_eq_true rfl) rfl (MH_obj rfl rfl) rfl (by decide) rfl rfl) (by rfl) (Nat.le_of_ble_eq_true rfl) (Nat.le_of_ble_eq_true rfl) rfl (by rfl) ?_
  refine w_p (pc1 := 135) rfl rfl ?_
  refine w_r rfl rfl rfl (fun _ _ => rfl) rfl ?_
  exact ⟨rfl, rfl, rfl⟩
set_option maxRecDepth 100000 in
theorem m_234_5 (hk : C.1 76 52 = nI (k + 1)) (h7 : k < 700) (hp : C.1 76 40 = nI p) (hp4 : p ≤ 40) (hu : C.1 76 41 = nI u) (h6 : u < 619) (hw : C.1 108 k = 5) : Wd L xs (d + 1) y_234 (0, [(0, .ref 176)], [], MH C t, sl) (Rt none (MH (stC (sI C 76 52 (nI k)) p u 12 (C.2.1 109 k)) t) sl) nX := by
  refine w_p (pc1 := 1) rfl rfl ?_
  refine w_p (pc1 := 2) rfl rfl ?_
  refine w_m0 (pc1 := 5) (st1 := .int (nI (k + 1)) :: _) rfl rfl (h_gIe (j := 52) rfl rfl rfl rfl rfl (hk)) rfl ?_
  refine w_p (pc1 := 6) (st1 := .int 1 :: _) rfl rfl ?_
  refine w_isub (pc1 := 7) (u := nI (k + 1)) (v := nI (1)) (z := nI (k + 1 - 1)) rfl (nK_sub (by omega)) rfl ?_
  refine w_m0 (pc1 := 10) rfl rfl (h_pI (j := 52) rfl rfl rfl rfl rfl rfl rfl ⟨rfl, rfl⟩ rfl) rfl ?_
  refine w_p (pc1 := 11) rfl rfl ?_
  refine w_m0 (pc1 := 14) rfl rfl (h_gC rfl rfl rfl rfl) rfl ?_
  refine w_p (pc1 := 15) rfl rfl ?_
  refine w_m0 (pc1 := 18) (st1 := .int (nI (k)) :: _) rfl rfl (h_gIe (j := 52) rfl rfl rfl rfl rfl (rfl)) rfl ?_
  refine w_m0 (pc1 := 19) (st1 := .int 5 :: _) rfl rfl (n_ile (e := k) rfl rfl rfl (by omega) (hw)) rfl ?_
  refine w_p (pc1 := 120) rfl rfl ?_
  refine w_p (pc1 := 121) rfl rfl ?_
  refine w_p (pc1 := 123) (st1 := .int 12 :: _) rfl rfl ?_
  refine w_p (pc1 := 124) rfl rfl ?_
  refine w_m0 (pc1 := 127) rfl rfl (h_gC rfl rfl rfl rfl) rfl ?_
  refine w_p (pc1 := 128) rfl rfl ?_
  refine w_m0 (pc1 := 131) (st1 := .int (nI (k)) :: _) rfl rfl (h_gIe (j := 52) rfl rfl rfl rfl rfl (rfl)) rfl ?_
  refine w_m0 (pc1 := 132) rfl rfl (n_ll (e := k) rfl rfl rfl (by omega)) rfl ?_
  refine w_je (pc1 := 135) (vs := [.ref 176, .int 12, _]) (rest := []) (st1 := []) (m_230 (d := _) (sl := 0) (C := sI C 76 52 (nI k)) (p := p) (u := u) hp hp4 hu h6) rfl rfl rfl (fun _ _ => rfl) rfl (by exact cl_v my_230 rfl rfl rfl (Nat.le_of_ble_eq_true rfl) rfl (MH_obj rfl rfl) rfl (by decide) rfl rfl) (by rfl) (Nat.le_of_ble_eq_true rfl) (Nat.le_of_ble_eq_true rfl) rfl (by rfl) ?_
  refine w_r rfl rfl rfl (fun _ _ => rfl) rfl ?_
  exact ⟨rfl, rfl, rfl⟩
set_option maxRecDepth 100000 in
theorem m_234_6 (hk : C.1 76 52 = nI (k + 1)) (h7 : k < 700) (hp : C.1 76 40 = nI p) (hp4 : p ≤ 40) (hu : C.1 76 41 = nI u) (h6 : u < 619) (hw : C.1 108 k = 6) : Wd L xs (d + 1) y_234 (0, [(0, .ref 176)], [], MH C t, sl) (Rt none (MH (stC (sI C 76 52 (nI k)) p u 12 (C.2.1 109 k)) t) sl) nX := by
  refine w_p (pc1 := 1) rfl rfl ?_
  refine w_p (pc1 := 2) rfl rfl ?_
  refine w_m0 (pc1 := 5) (st1 := .int (nI (k + 1)) :: _) rfl rfl (h_gIe (j := 52) rfl rfl rfl rfl rfl (hk)) rfl ?_
  refine w_p (pc1 := 6) (st1 := .int 1 :: _) rfl rfl ?_
  refine w_isub (pc1 := 7) (u := nI (k + 1)) (v := nI (1)) (z := nI (k + 1 - 1)) rfl (nK_sub (by omega)) rfl ?_
  refine w_m0 (pc1 := 10) rfl rfl (h_pI (j := 52) rfl rfl rfl rfl rfl rfl rfl ⟨rfl, rfl⟩ rfl) rfl ?_
  refine w_p (pc1 := 11) rfl rfl ?_
  refine w_m0 (pc1 := 14) rfl rfl (h_gC rfl rfl rfl rfl) rfl ?_
  refine w_p (pc1 := 15) rfl rfl ?_
  refine w_m0 (pc1 := 18) (st1 := .int (nI (k)) :: _) rfl rfl (h_gIe (j := 52) rfl rfl rfl rfl rfl (rfl)) rfl ?_
  refine w_m0 (pc1 := 19) (st1 := .int 6 :: _) rfl rfl (n_ile (e := k) rfl rfl rfl (by omega) (hw)) rfl ?_
  refine w_p (pc1 := 120) rfl rfl ?_
  refine w_p (pc1 := 121) rfl rfl ?_
  refine w_p (pc1 := 123) (st1 := .int 12 :: _) rfl rfl ?_
  refine w_p (pc1 := 124) rfl rfl ?_
  refine w_m0 (pc1 := 127) rfl rfl (h_gC rfl rfl rfl rfl) rfl ?_
  refine w_p (pc1 := 128) rfl rfl ?_
  refine w_m0 (pc1 := 131) (st1 := .int (nI (k)) :: _) rfl rfl (h_gIe (j := 52) rfl rfl rfl rfl rfl (rfl)) rfl ?_
  refine w_m0 (pc1 := 132) rfl rfl (n_ll (e := k) rfl rfl rfl (by omega)) rfl ?_
  refine w_je (pc1 := 135) (vs := [.ref 176, .int 12, _]) (rest := []) (st1 := []) (m_230 (d := _) (sl := 0) (C := sI C 76 52 (nI k)) (p := p) (u := u) hp hp4 hu h6) rfl rfl rfl (fun _ _ => rfl) rfl (by exact cl_v my_230 rfl rfl rfl (Nat.le_of_ble_eq_true rfl) rfl (MH_obj rfl rfl) rfl (by decide) rfl rfl) (by rfl) (Nat.le_of_ble_eq_true rfl) (Nat.le_of_ble_eq_true rfl) rfl (by rfl) ?_
  refine w_r rfl rfl rfl (fun _ _ => rfl) rfl ?_
  exact ⟨rfl, rfl, rfl⟩
end MFS
