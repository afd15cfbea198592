
/-! THE OTHER SIDE'S ENGINE: a step begins; a new row is worked out -/
def bsC (C : co_T) (u D v f : Nat) (kd tb i : Int32) : co_T := sI (sI (sI (sI (sI (sI (sI (sI (sI (sI C 76 93 (nI (u + 1))) 76 94 (nI (D + 1))) 76 95 (nI (max v (D + 1)))) 76 75 (nI (f + 1))) 125 f 1) 128 f kd) 129 f tb) 130 f i) 131 f 0) 132 f 0
/-! a frame that is a step; one that is a change -/
def SFM (C : co_T) (f : Nat) (kd tb i ph nx : Int32) : Prop := C.1 125 f = 1 ∧ C.1 128 f = kd ∧ C.1 129 f = tb ∧ C.1 130 f = i ∧ C.1 131 f = ph ∧ C.1 132 f = nx
def CFM (C : co_T) (f p row : Nat) (many at_ : Int32) : Prop := C.1 125 f = 0 ∧ C.1 126 f = nI p ∧ C.1 127 f = nI row ∧ C.1 134 f = many ∧ C.1 135 f = at_
def frO (f : Nat) (C C' : co_T) : Prop := (∀ k j, C'.1 k j = C.1 k j) ∧ (∀ k j, ¬ ((k = 136 ∨ k = 137) ∧ 6 * f ≤ j ∧ j < 6 * f + 6) → C'.2.1 k j = C.2.1 k j) ∧ C'.2.2 = C.2.2
set_option maxRecDepth 100000 in
theorem frO_r {f : Nat} {C : co_T} : frO f C C := ⟨fun _ _ => rfl, fun _ _ _ => rfl, rfl⟩
set_option maxRecDepth 100000 in
theorem frO_t {f : Nat} {C1 C2 C3 : co_T} (h : frO f C1 C2) (g : frO f C2 C3) : frO f C1 C3 := ⟨fun k j => (g.1 k j).trans (h.1 k j), fun k j a => (g.2.1 k j a).trans (h.2.1 k j a), g.2.2.trans h.2.2⟩
set_option maxRecDepth 100000 in
theorem frO_J {f k j : Nat} {C : co_T} {x : Int64} (h : (k = 136 ∨ k = 137) ∧ 6 * f ≤ j ∧ j < 6 * f + 6) : frO f C (sJ C k j x) := ⟨fun _ _ => by rw [sJ_1], fun q i a => by rw [sJ_2, if_neg (by omega)], rfl⟩
set_option maxRecDepth 100000 in
theorem frO_Q {f : Nat} {C C' : co_T} (h : frO f C C') : frQ f C C' := ⟨fun k j _ _ _ _ => h.1 k j, fun k j _ _ c => h.2.1 k j (by omega), h.2.2⟩
set_option maxRecDepth 100000 in
theorem frO_V {f : Nat} {C C' : co_T} (h : frO f C C') : frV C C' := ⟨fun j => h.1 115 j, fun j => h.1 117 j, fun j => h.1 118 j, fun j => h.2.1 116 j (by omega)⟩
section ME2
variable {L : Nat} {xs : Nat → Int32} {C : co_T} {t : ab_H} {d sl D F k b c f p u v : Nat} {S : st_T} {N O : rw_F} {wd : Nat → Nat} {rs : rs_T} {r : ro_T} {σ : es_T} {kd tb i : Int32}
set_option maxRecDepth 100000 in
theorem bs_Q : frQ f C (bsC C u D v f kd tb i) := by
  unfold bsC
  refine ⟨fun k j h1 h2 h3 h4 => ?_, fun _ _ _ _ _ => rfl, rfl⟩
  rw [sI_1, if_neg (by omega), sI_1, if_neg (by omega), sI_1, if_neg (by omega), sI_1, if_neg (by omega), sI_1, if_neg (by omega), sI_1, if_neg (by omega), sI_1, if_neg (by omega), sI_1, if_neg (by omega), sI_1, if_neg (by omega), sI_1, if_neg (by omega)]
set_option maxRecDepth 100000 in
theorem bs_V : frV C (bsC C u D v f kd tb i) := by
  have e : ∀ k j, k = 115 ∨ k = 117 ∨ k = 118 → (bsC C u D v f kd tb i).1 k j = C.1 k j := by
    intro k j h
    unfold bsC
    rw [sI_1, if_neg (by omega), sI_1, if_neg (by omega), sI_1, if_neg (by omega), sI_1, if_neg (by omega), sI_1, if_neg (by omega), sI_1, if_neg (by omega), sI_1, if_neg (by omega), sI_1, if_neg (by omega), sI_1, if_neg (by omega), sI_1, if_neg (by omega)]
  exact ⟨fun j => e 115 j (by omega), fun j => e 117 j (by omega), fun j => e 118 j (by omega), fun _ => rfl⟩
set_option maxRecDepth 100000 in
theorem bs_S : SFM (bsC C u D v f kd tb i) f kd tb i 0 0 := by
  unfold SFM bsC
  simp [sI_1]
set_option maxRecDepth 100000 in
theorem bs_C : (bsC C u D v f kd tb i).1 76 93 = nI (u + 1) ∧ (bsC C u D v f kd tb i).1 76 94 = nI (D + 1) ∧ (bsC C u D v f kd tb i).1 76 95 = nI (max v (D + 1)) ∧ (bsC C u D v f kd tb i).1 76 75 = nI (f + 1) ∧ (bsC C u D v f kd tb i).1 76 89 = C.1 76 89 ∧ (bsC C u D v f kd tb i).1 76 74 = C.1 76 74 := by
  unfold bsC
  simp [sI_1]
set_option maxRecDepth 100000 in
theorem m_260x (h1 : C.1 76 93 = nI u) (hu : u ≤ 300) (h2 : C.1 76 94 = nI D) (hD : D ≤ 12) (h0 : C.1 76 89 = 0) (h : 300 ≤ u ∨ 12 ≤ D) : Wd L xs (d + 1) y_260 (0, [(0, .ref 176), (1, .int (kd)), (2, .int (tb)), (3, .int (i))], [], MH C t, sl) (Rt (some (.int (-1))) (MH (sI C 76 89 5) t) sl) nX := by
  by_cases h3 : u = 300
  · skip
    refine w_p (pc1 := 1) rfl rfl ?_
    refine w_m0 (pc1 := 4) (st1 := .int (nI (u)) :: _) rfl rfl (h_gIe (j := 93) rfl rfl rfl rfl rfl (h1)) rfl ?_
    refine w_p (pc1 := 7) (st1 := .int 300 :: _) rfl rfl ?_
    refine w_t (a := 19) (b := 10) (bN_eq_t (a := u) (b := 300) (by omega) (by omega) (by omega)) rfl rfl ?_
    refine w_p (pc1 := 20) rfl rfl ?_
    refine w_p (pc1 := 21) (st1 := .int 5 :: _) rfl rfl ?_
    refine w_je (pc1 := 24) (vs := [.ref 176, .int 5]) (rest := []) (st1 := []) (m_256 (d := d) (sl := 0) h0) rfl rfl rfl (fun _ _ => rfl) rfl (by exact cl_v my_256 rfl rfl rfl (Nat.le_of_ble_eq_true rfl) rfl (MH_obj rfl rfl) rfl (by decide) rfl rfl) (by rfl) (Nat.le_of_ble_eq_true rfl) (Nat.le_of_ble_eq_true rfl) rfl (by rfl) ?_
    refine w_p (pc1 := 25) (st1 := .int (-1) :: _) rfl rfl ?_
    refine w_r rfl rfl rfl (fun _ _ => rfl) cr_int ?_
    exact ⟨rfl, rfl, rfl⟩
  · skip
    refine w_p (pc1 := 1) rfl rfl ?_
    refine w_m0 (pc1 := 4) (st1 := .int (nI (u)) :: _) rfl rfl (h_gIe (j := 93) rfl rfl rfl rfl rfl (h1)) rfl ?_
    refine w_p (pc1 := 7) (st1 := .int 300 :: _) rfl rfl ?_
    refine w_f (a := 19) (b := 10) (bN_eq_f (a := u) (b := 300) (by omega) (by omega) (by omega)) rfl rfl ?_
    refine w_p (pc1 := 11) rfl rfl ?_
    refine w_m0 (pc1 := 14) (st1 := .int (nI (D)) :: _) rfl rfl (h_gIe (j := 94) rfl rfl rfl rfl rfl (h2)) rfl ?_
    refine w_p (pc1 := 16) (st1 := .int 12 :: _) rfl rfl ?_
    refine w_f (a := 26) (b := 19) (bN_ne_f (a := D) (b := 12) (by omega) (by omega) (by omega)) rfl rfl ?_
    refine w_p (pc1 := 20) rfl rfl ?_
    refine w_p (pc1 := 21) (st1 := .int 5 :: _) rfl rfl ?_
    refine w_je (pc1 := 24) (vs := [.ref 176, .int 5]) (rest := []) (st1 := []) (m_256 (d := d) (sl := 0) h0) rfl rfl rfl (fun _ _ => rfl) rfl (by exact cl_v my_256 rfl rfl rfl (Nat.le_of_ble_eq_true rfl) rfl (MH_obj rfl rfl) rfl (by decide) rfl rfl) (by rfl) (Nat.le_of_ble_eq_true rfl) (Nat.le_of_ble_eq_true rfl) rfl (by rfl) ?_
    refine w_p (pc1 := 25) (st1 := .int (-1) :: _) rfl rfl ?_
    refine w_r rfl rfl rfl (fun _ _ => rfl) cr_int ?_
    exact ⟨rfl, rfl, rfl⟩
set_option maxRecDepth 100000 in
theorem m_260 (h1 : C.1 76 93 = nI u) (hu : u < 300) (h2 : C.1 76 94 = nI D) (hD : D < 12) (h3 : C.1 76 95 = nI v) (hv : v ≤ 12) (h4 : C.1 76 75 = nI f) (hf : f < 40) : Wd L xs (d + 1) y_260 (0, [(0, .ref 176), (1, .int (kd)), (2, .int (tb)), (3, .int (i))], [], MH C t, sl) (Rt (some (.int (nI f))) (MH (bsC C u D v f kd tb i) t) sl) nX := by
  unfold bsC
  by_cases h5 : D + 1 ≤ v
  · rw [Nat.max_eq_left h5]
    refine w_p (pc1 := 1) rfl rfl ?_
    refine w_m0 (pc1 := 4) (st1 := .int (nI (u)) :: _) rfl rfl (h_gIe (j := 93) rfl rfl rfl rfl rfl (h1)) rfl ?_
    refine w_p (pc1 := 7) (st1 := .int 300 :: _) rfl rfl ?_
    refine w_f (a := 19) (b := 10) (bN_eq_f (a := u) (b := 300) (by omega) (by omega) (by omega)) rfl rfl ?_
    refine w_p (pc1 := 11) rfl rfl ?_
    refine w_m0 (pc1 := 14) (st1 := .int (nI (D)) :: _) rfl rfl (h_gIe (j := 94) rfl rfl rfl rfl rfl (h2)) rfl ?_
    refine w_p (pc1 := 16) (st1 := .int 12 :: _) rfl rfl ?_
    refine w_t (a := 26) (b := 19) (bN_ne_t (a := D) (b := 12) (by omega) (by omega) (by omega)) rfl rfl ?_
    refine w_p (pc1 := 27) rfl rfl ?_
    refine w_p (pc1 := 28) rfl rfl ?_
    refine w_m0 (pc1 := 31) (st1 := .int (nI (u)) :: _) rfl rfl (h_gIe (j := 93) rfl rfl rfl rfl rfl (h1)) rfl ?_
    refine w_p (pc1 := 32) (st1 := .int 1 :: _) rfl rfl ?_
    refine w_iadd (pc1 := 33) (u := nI (u)) (v := nI (1)) (z := nI (u + 1)) rfl (nK_add) rfl ?_
    refine w_m0 (pc1 := 36) rfl rfl (h_pI (j := 93) rfl rfl rfl rfl rfl rfl rfl ⟨rfl, rfl⟩ rfl) rfl ?_
    refine w_p (pc1 := 37) rfl rfl ?_
    refine w_p (pc1 := 38) rfl rfl ?_
    refine w_m0 (pc1 := 41) (st1 := .int (nI (D)) :: _) rfl rfl (h_gIe (j := 94) rfl rfl rfl rfl rfl (h2)) rfl ?_
    refine w_p (pc1 := 42) (st1 := .int 1 :: _) rfl rfl ?_
    refine w_iadd (pc1 := 43) (u := nI (D)) (v := nI (1)) (z := nI (D + 1)) rfl (nK_add) rfl ?_
    refine w_m0 (pc1 := 46) rfl rfl (h_pI (j := 94) rfl rfl rfl rfl rfl rfl rfl ⟨rfl, rfl⟩ rfl) rfl ?_
    refine w_p (pc1 := 47) rfl rfl ?_
    refine w_p (pc1 := 48) rfl rfl ?_
    refine w_m0 (pc1 := 51) (st1 := .int (nI (D + 1)) :: _) rfl rfl (h_gIe (j := 94) rfl rfl rfl rfl rfl (rfl)) rfl ?_
    refine w_p (pc1 := 52) rfl rfl ?_
    refine w_m0 (pc1 := 55) (st1 := .int (nI (v)) :: _) rfl rfl (h_gIe (j := 95) rfl rfl rfl rfl rfl (h3)) rfl ?_
    refine w_t (a := 65) (b := 58) (bN_le_t (a := D + 1) (b := v) (by omega) (by omega) (by omega)) rfl rfl ?_
    refine w_p (pc1 := 66) rfl rfl ?_
    refine w_m0 (pc1 := 69) (st1 := .int (nI (v)) :: _) rfl rfl (h_gIe (j := 95) rfl rfl rfl rfl rfl (h3)) rfl ?_
    refine w_m0 (pc1 := 72) rfl rfl (h_pI (j := 95) rfl rfl rfl rfl rfl rfl rfl ⟨rfl, rfl⟩ rfl) rfl ?_
    refine w_p (pc1 := 73) rfl rfl ?_
    refine w_m0 (pc1 := 76) (st1 := .int (nI (f)) :: _) rfl rfl (h_gIe (j := 75) rfl rfl rfl rfl rfl (h4)) rfl ?_
    refine w_p (pc1 := 78) (al1 := [(4, .int (nI (f))), (0, .ref 176), (1, .int (kd)), (2, .int (tb)), (3, .int (i))]) rfl rfl ?_
    refine w_p (pc1 := 79) rfl rfl ?_
    refine w_p (pc1 := 80) rfl rfl ?_
    refine w_m0 (pc1 := 83) (st1 := .int (nI (f)) :: _) rfl rfl (h_gIe (j := 75) rfl rfl rfl rfl rfl (h4)) rfl ?_
    refine w_p (pc1 := 84) (st1 := .int 1 :: _) rfl rfl ?_
    refine w_iadd (pc1 := 85) (u := nI (f)) (v := nI (1)) (z := nI (f + 1)) rfl (nK_add) rfl ?_
    refine w_m0 (pc1 := 88) rfl rfl (h_pI (j := 75) rfl rfl rfl rfl rfl rfl rfl ⟨rfl, rfl⟩ rfl) rfl ?_
    refine w_p (pc1 := 89) rfl rfl ?_
    refine w_m0 (pc1 := 92) rfl rfl (h_gC rfl rfl rfl rfl) rfl ?_
    refine w_p (pc1 := 94) rfl rfl ?_
    refine w_p (pc1 := 95) (st1 := .int 1 :: _) rfl rfl ?_
    refine w_m0 (pc1 := 96) rfl rfl (n_is (e := f) rfl rfl rfl (by omega)) rfl ?_
    refine w_p (pc1 := 97) rfl rfl ?_
    refine w_m0 (pc1 := 100) rfl rfl (h_gC rfl rfl rfl rfl) rfl ?_
    refine w_p (pc1 := 102) rfl rfl ?_
    refine w_p (pc1 := 103) rfl rfl ?_
    refine w_m0 (pc1 := 104) rfl rfl (n_is (e := f) rfl rfl rfl (by omega)) rfl ?_
    refine w_p (pc1 := 105) rfl rfl ?_
    refine w_m0 (pc1 := 108) rfl rfl (h_gC rfl rfl rfl rfl) rfl ?_
    refine w_p (pc1 := 110) rfl rfl ?_
    refine w_p (pc1 := 111) rfl rfl ?_
    refine w_m0 (pc1 := 112) rfl rfl (n_is (e := f) rfl rfl rfl (by omega)) rfl ?_
    refine w_p (pc1 := 113) rfl rfl ?_
    refine w_m0 (pc1 := 116) rfl rfl (h_gC rfl rfl rfl rfl) rfl ?_
    refine w_p (pc1 := 118) rfl rfl ?_
    refine w_p (pc1 := 119) rfl rfl ?_
    refine w_m0 (pc1 := 120) rfl rfl (n_is (e := f) rfl rfl rfl (by omega)) rfl ?_
    refine w_p (pc1 := 121) rfl rfl ?_
    refine w_m0 (pc1 := 124) rfl rfl (h_gC rfl rfl rfl rfl) rfl ?_
    refine w_p (pc1 := 126) rfl rfl ?_
    refine w_p (pc1 := 127) (st1 := .int 0 :: _) rfl rfl ?_
    refine w_m0 (pc1 := 128) rfl rfl (n_is (e := f) rfl rfl rfl (by omega)) rfl ?_
    refine w_p (pc1 := 129) rfl rfl ?_
    refine w_m0 (pc1 := 132) rfl rfl (h_gC rfl rfl rfl rfl) rfl ?_
    refine w_p (pc1 := 134) rfl rfl ?_
    refine w_p (pc1 := 135) (st1 := .int 0 :: _) rfl rfl ?_
    refine w_m0 (pc1 := 136) rfl rfl (n_is (e := f) rfl rfl rfl (by omega)) rfl ?_
    refine w_p (pc1 := 138) rfl rfl ?_
    refine w_r rfl rfl rfl (fun _ _ => rfl) cr_int ?_
    exact ⟨rfl, rfl, rfl⟩
  · rw [Nat.max_eq_right (by omega)]
    refine w_p (pc1 := 1) rfl rfl ?_
    refine w_m0 (pc1 := 4) (st1 := .int (nI (u)) :: _) rfl rfl (h_gIe (j := 93) rfl rfl rfl rfl rfl (h1)) rfl ?_
    refine w_p (pc1 := 7) (st1 := .int 300 :: _) rfl rfl ?_
    refine w_f (a := 19) (b := 10) (bN_eq_f (a := u) (b := 300) (by omega) (by omega) (by omega)) rfl rfl ?_
    refine w_p (pc1 := 11) rfl rfl ?_
    refine w_m0 (pc1 := 14) (st1 := .int (nI (D)) :: _) rfl rfl (h_gIe (j := 94) rfl rfl rfl rfl rfl (h2)) rfl ?_
    refine w_p (pc1 := 16) (st1 := .int 12 :: _) rfl rfl ?_
    refine w_t (a := 26) (b := 19) (bN_ne_t (a := D) (b := 12) (by omega) (by omega) (by omega)) rfl rfl ?_
    refine w_p (pc1 := 27) rfl rfl ?_
    refine w_p (pc1 := 28) rfl rfl ?_
    refine w_m0 (pc1 := 31) (st1 := .int (nI (u)) :: _) rfl rfl (h_gIe (j := 93) rfl rfl rfl rfl rfl (h1)) rfl ?_
    refine w_p (pc1 := 32) (st1 := .int 1 :: _) rfl rfl ?_
    refine w_iadd (pc1 := 33) (u := nI (u)) (v := nI (1)) (z := nI (u + 1)) rfl (nK_add) rfl ?_
    refine w_m0 (pc1 := 36) rfl rfl (h_pI (j := 93) rfl rfl rfl rfl rfl rfl rfl ⟨rfl, rfl⟩ rfl) rfl ?_
    refine w_p (pc1 := 37) rfl rfl ?_
    refine w_p (pc1 := 38) rfl rfl ?_
    refine w_m0 (pc1 := 41) (st1 := .int (nI (D)) :: _) rfl rfl (h_gIe (j := 94) rfl rfl rfl rfl rfl (h2)) rfl ?_
    refine w_p (pc1 := 42) (st1 := .int 1 :: _) rfl rfl ?_
    refine w_iadd (pc1 := 43) (u := nI (D)) (v := nI (1)) (z := nI (D + 1)) rfl (nK_add) rfl ?_
    refine w_m0 (pc1 := 46) rfl rfl (h_pI (j := 94) rfl rfl rfl rfl rfl rfl rfl ⟨rfl, rfl⟩ rfl) rfl ?_
    refine w_p (pc1 := 47) rfl rfl ?_
    refine w_p (pc1 := 48) rfl rfl ?_
    refine w_m0 (pc1 := 51) (st1 := .int (nI (D + 1)) :: _) rfl rfl (h_gIe (j := 94) rfl rfl rfl rfl rfl (rfl)) rfl ?_
    refine w_p (pc1 := 52) rfl rfl ?_
    refine w_m0 (pc1 := 55) (st1 := .int (nI (v)) :: _) rfl rfl (h_gIe (j := 95) rfl rfl rfl rfl rfl (h3)) rfl ?_
    refine w_f (a := 65) (b := 58) (bN_le_f (a := D + 1) (b := v) (by omega) (by omega) (by omega)) rfl rfl ?_
    refine w_p (pc1 := 59) rfl rfl ?_
    refine w_m0 (pc1 := 62) (st1 := .int (nI (D + 1)) :: _) rfl rfl (h_gIe (j := 94) rfl rfl rfl rfl rfl (rfl)) rfl ?_
    refine w_p (pc1 := 69) rfl rfl ?_
    refine w_m0 (pc1 := 72) rfl rfl (h_pI (j := 95) rfl rfl rfl rfl rfl rfl rfl ⟨rfl, rfl⟩ rfl) rfl ?_
    refine w_p (pc1 := 73) rfl rfl ?_
    refine w_m0 (pc1 := 76) (st1 := .int (nI (f)) :: _) rfl rfl (h_gIe (j := 75) rfl rfl rfl rfl rfl (h4)) rfl ?_
    refine w_p (pc1 := 78) (al1 := [(4, .int (nI (f))), (0, .ref 176), (1, .int (kd)), (2, .int (tb)), (3, .int (i))]) rfl rfl ?_
    refine w_p (pc1 := 79) rfl rfl ?_
    refine w_p (pc1 := 80) rfl rfl ?_
    refine w_m0 (pc1 := 83) (st1 := .int (nI (f)) :: _) rfl rfl (h_gIe (j := 75) rfl rfl rfl rfl rfl (h4)) rfl ?_
    refine w_p (pc1 := 84) (st1 := .int 1 :: _) rfl rfl ?_
    refine w_iadd (pc1 := 85) (u := nI (f)) (v := nI (1)) (z := nI (f + 1)) rfl (nK_add) rfl ?_
    refine w_m0 (pc1 := 88) rfl rfl (h_pI (j := 75) rfl rfl rfl rfl rfl rfl rfl ⟨rfl, rfl⟩ rfl) rfl ?_
    refine w_p (pc1 := 89) rfl rfl ?_
    refine w_m0 (pc1 := 92) rfl rfl (h_gC rfl rfl rfl rfl) rfl ?_
    refine w_p (pc1 := 94) rfl rfl ?_
    refine w_p (pc1 := 95) (st1 := .int 1 :: _) rfl rfl ?_
    refine w_m0 (pc1 := 96) rfl rfl (n_is (e := f) rfl rfl rfl (by omega)) rfl ?_
    refine w_p (pc1 := 97) rfl rfl ?_
    refine w_m0 (pc1 := 100) rfl rfl (h_gC rfl rfl rfl rfl) rfl ?_
    refine w_p (pc1 := 102) rfl rfl ?_
    refine w_p (pc1 := 103) rfl rfl ?_
    refine w_m0 (pc1 := 104) rfl rfl (n_is (e := f) rfl rfl rfl (by omega)) rfl ?_
    refine w_p (pc1 := 105) rfl rfl ?_
    refine w_m0 (pc1 := 108) rfl rfl (h_gC rfl rfl rfl rfl) rfl ?_
    refine w_p (pc1 := 110) rfl rfl ?_
    refine w_p (pc1 := 111) rfl rfl ?_
    refine w_m0 (pc1 := 112) rfl rfl (n_is (e := f) rfl rfl rfl (by omega)) rfl ?_
    refine w_p (pc1 := 113) rfl rfl ?_
    refine w_m0 (pc1 := 116) rfl rfl (h_gC rfl rfl rfl rfl) rfl ?_
    refine w_p (pc1 := 118) rfl rfl ?_
    refine w_p (pc1 := 119) rfl rfl ?_
    refine w_m0 (pc1 := 120) rfl rfl (n_is (e := f) rfl rfl rfl (by omega)) rfl ?_
    refine w_p (pc1 := 121) rfl rfl ?_
    refine w_m0 (pc1 := 124) rfl rfl (h_gC rfl rfl rfl rfl) rfl ?_
    refine w_p (pc1 := 126) rfl rfl ?_
    refine w_p (pc1 := 127) (st1 := .int 0 :: _) rfl rfl ?_
    refine w_m0 (pc1 := 128) rfl rfl (n_is (e := f) rfl rfl rfl (by omega)) rfl ?_
    refine w_p (pc1 := 129) rfl rfl ?_
    refine w_m0 (pc1 := 132) rfl rfl (h_gC rfl rfl rfl rfl) rfl ?_
    refine w_p (pc1 := 134) rfl rfl ?_
    refine w_p (pc1 := 135) (st1 := .int 0 :: _) rfl rfl ?_
    refine w_m0 (pc1 := 136) rfl rfl (n_is (e := f) rfl rfl rfl (by omega)) rfl ?_
    refine w_p (pc1 := 138) rfl rfl ?_
    refine w_r rfl rfl rfl (fun _ _ => rfl) cr_int ?_
    exact ⟨rfl, rfl, rfl⟩
def TO (C C' : co_T) (f p c : Nat) : Prop := ∀ j, j < c → C'.2.1 137 (6 * f + j) = C.2.1 116 (p + j) ∧ C'.2.1 136 (6 * f + j) = C.2.1 116 (p + j)
set_option maxRecDepth 100000 in
theorem lp_262 {C0 : co_T} (hf : f < 40) (hb : b < 6) (hk : k < 40) : ∀ (m c : Nat) (C : co_T), c + m = 6 → frO f C0 C → TO C0 C f ((b * 40 + k) * 6) c → Wd L xs (d + 1) y_262 (3, [(4, .int (nI (c))), (0, .ref 176), (1, .int (nI (f))), (2, .int (nI (b))), (3, .int (nI (k)))], [], MH C t, sl) (fun v h m => none = v ∧ (∃ C', (frO f C0 C' ∧ TO C0 C' f ((b * 40 + k) * 6) 6) ∧ MH C' t = h) ∧ sl = m) nX
  | 0, c, C, hc, hO, hT => by
    obtain rfl : c = 6 := by omega
    refine w_p (pc1 := 5) rfl rfl ?_
    refine w_p (pc1 := 7) (st1 := .int 6 :: _) rfl rfl ?_
    refine w_t (a := 56) (b := 10) (bN_ge_t (a := 6) (b := 6) (by omega) (by omega) (by omega)) rfl rfl ?_
    refine w_r rfl rfl rfl (fun _ _ => rfl) rfl ?_
    exact ⟨rfl, ⟨C, ⟨hO, hT⟩, rfl⟩, rfl⟩
  | m + 1, c, C, hc, hO, hT => by
    have hv : C.2.1 116 ((b * 40 + k) * 6 + c) = C0.2.1 116 ((b * 40 + k) * 6 + c) := hO.2.1 116 _ (by omega)
    have hm1 := m_263 (L := L) (xs := xs) (C := C) (t := t) (d := d) (sl := 0) hb hk (c := c) (by omega)
    have hm2 := m_263 (L := L) (xs := xs) (C := sJ C 137 (6 * f + c) (C.2.1 116 ((b * 40 + k) * 6 + c))) (t := t) (d := d) (sl := 0) hb hk (c := c) (by omega)
    rw [sJ_2, if_neg (by omega)] at hm2
    refine w_p (pc1 := 5) rfl rfl ?_
    refine w_p (pc1 := 7) (st1 := .int 6 :: _) rfl rfl ?_
    refine w_f (a := 56) (b := 10) (bN_ge_f (a := c) (b := 6) (by omega) (by omega) (by omega)) rfl rfl ?_
    refine w_p (pc1 := 11) rfl rfl ?_
    refine w_m0 (pc1 := 14) rfl rfl (h_gC rfl rfl rfl rfl) rfl ?_
    refine w_p (pc1 := 16) (st1 := .int 6 :: _) rfl rfl ?_
    refine w_p (pc1 := 17) rfl rfl ?_
    refine w_imul (pc1 := 18) (u := nI (6)) (v := nI (f)) (z := nI (6 * f)) rfl (nK_mul) rfl ?_
    refine w_p (pc1 := 20) rfl rfl ?_
    refine w_iadd (pc1 := 21) (u := nI (6 * f)) (v := nI (c)) (z := nI (6 * f + c)) rfl (nK_add) rfl ?_
    refine w_p (pc1 := 22) rfl rfl ?_
    refine w_p (pc1 := 23) rfl rfl ?_
    refine w_p (pc1 := 24) rfl rfl ?_
    refine w_p (pc1 := 26) rfl rfl ?_
    refine w_je (pc1 := 29) (vs := [.ref 176, .int (nI (b)), .int (nI (k)), .int (nI (c))]) (rest := [.int (nI (6 * f + c)), .ref 237]) (st1 := [.long (C.2.1 116 ((b * 40 + k) * 6 + c)), .int (nI (6 * f + c)), .ref 237]) (hm1) rfl rfl rfl (fun _ _ => rfl) rfl (by exact cl_v my_263 rfl rfl rfl (Nat.le_of_ble_eq_true rfl) rfl (MH_obj rfl rfl) rfl (by decide) rfl rfl) (by rfl) (Nat.le_of_ble_eq_true rfl) (Nat.le_of_ble_eq_true rfl) rfl (by rfl) ?_
    refine w_m0 (pc1 := 30) rfl rfl (n_ls (e := 6 * f + c) rfl rfl rfl (by omega)) rfl ?_
    refine w_p (pc1 := 31) rfl rfl ?_
    refine w_m0 (pc1 := 34) rfl rfl (h_gC rfl rfl rfl rfl) rfl ?_
    refine w_p (pc1 := 36) (st1 := .int 6 :: _) rfl rfl ?_
    refine w_p (pc1 := 37) rfl rfl ?_
    refine w_imul (pc1 := 38) (u := nI (6)) (v := nI (f)) (z := nI (6 * f)) rfl (nK_mul) rfl ?_
    refine w_p (pc1 := 40) rfl rfl ?_
    refine w_iadd (pc1 := 41) (u := nI (6 * f)) (v := nI (c)) (z := nI (6 * f + c)) rfl (nK_add) rfl ?_
    refine w_p (pc1 := 42) rfl rfl ?_
    refine w_p (pc1 := 43) rfl rfl ?_
    refine w_p (pc1 := 44) rfl rfl ?_
    refine w_p (pc1 := 46) rfl rfl ?_
    refine w_je (pc1 := 49) (vs := [.ref 176, .int (nI (b)), .int (nI (k)), .int (nI (c))]) (rest := [.int (nI (6 * f + c)), .ref 236]) (st1 := [.long (C.2.1 116 ((b * 40 + k) * 6 + c)), .int (nI (6 * f + c)), .ref 236]) (hm2) rfl rfl rfl (fun _ _ => rfl) rfl (by exact cl_v my_263 rfl rfl rfl (Nat.le_of_ble_eq_true rfl) rfl (MH_obj rfl rfl) rfl (by decide) rfl rfl) (by rfl) (Nat.le_of_ble_eq_true rfl) (Nat.le_of_ble_eq_true rfl) rfl (by rfl) ?_
    refine w_m0 (pc1 := 50) rfl rfl (n_ls (e := 6 * f + c) rfl rfl rfl (by omega)) rfl ?_
    refine w_iinc (pc1 := 53) (u := nI (c)) (z := nI (c + 1)) (al1 := [(4, .int (nI (c + 1))), (0, .ref 176), (1, .int (nI (f))), (2, .int (nI (b))), (3, .int (nI (k)))]) rfl rfl rfl nK_1 rfl rfl ?_
    refine w_p (pc1 := 3) rfl rfl ?_
    have f1 : frO f C (sJ C 137 (6 * f + c) (C.2.1 116 ((b * 40 + k) * 6 + c))) := frO_J (by omega)
    have f2 : frO f (sJ C 137 (6 * f + c) (C.2.1 116 ((b * 40 + k) * 6 + c))) (sJ (sJ C 137 (6 * f + c) (C.2.1 116 ((b * 40 + k) * 6 + c))) 136 (6 * f + c) (C.2.1 116 ((b * 40 + k) * 6 + c))) := frO_J (by omega)
    refine lp_262 (C0 := C0) hf hb hk m (c + 1) _ (by omega) (frO_t hO (frO_t f1 f2)) (fun j hj => ?_)
    by_cases e : j = c
    · subst e
      refine ⟨?_, ?_⟩
      · rw [sJ_2, if_neg (by omega), sJ_2, if_pos ⟨rfl, rfl⟩, hv]
      · rw [sJ_2, if_pos ⟨rfl, rfl⟩, hv]
    · have h1 := hT j (by omega)
      refine ⟨?_, ?_⟩
      · rw [sJ_2, if_neg (by omega), sJ_2, if_neg (by omega)]
        exact h1.1
      · rw [sJ_2, if_neg (by omega), sJ_2, if_neg (by omega)]
        exact h1.2
set_option maxRecDepth 100000 in
theorem m_262 (hf : f < 40) (hb : b < 6) (hk : k < 40) : Wd L xs (d + 1) y_262 (0, [(0, .ref 176), (1, .int (nI (f))), (2, .int (nI (b))), (3, .int (nI (k)))], [], MH C t, sl) (fun v h m => none = v ∧ (∃ C', (frO f C C' ∧ TO C C' f ((b * 40 + k) * 6) 6) ∧ MH C' t = h) ∧ sl = m) nX := by
  refine w_p (pc1 := 1) (st1 := .int 0 :: _) rfl rfl ?_
  refine w_p (pc1 := 3) (al1 := [(4, .int 0), (0, .ref 176), (1, .int (nI (f))), (2, .int (nI (b))), (3, .int (nI (k)))]) rfl rfl ?_
  exact lp_262 hf hb hk 6 0 C rfl frO_r (fun j hj => absurd hj (by omega))
end ME2
