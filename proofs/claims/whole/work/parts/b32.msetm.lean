
/-! THE OTHER SIDE: a mark is set -/
section SMK
variable {L : Nat} {xs : Nat → Int32} {B : Nat → Nat} {n m : Nat} {C C' C0 C1 : co_T} {t t0 t1 : ab_H} {d sl sl0 sl1 i i0 i1 j b e ti k k0 kc ks w c : Nat} {sc : sc_T} {row : Option Nat} {tg : Option (Nat × Nat)} {nl : Option Nat} {kd0 tb0 : Int32} {P : Option Value → ab_H → Nat → Prop} {X : Nat → ab_H → Nat → Prop} {cs : List Nat} {ss : List (Option (List op_T))} {E : fe_T} {tr : Nat → Option tr_T} {nn f p : Nat} {wd : Nat → Nat} {rs : rs_T} {v : Int64}
set_option maxRecDepth 100000 in
theorem nK_s0 {a : Nat} : nI a - 0 = nI a := Int32.sub_zero _
set_option maxRecDepth 100000 in
theorem RWs_c {oI oJ oD : Nat} (h2 : ∀ i, i < 240 → C'.1 b (oI + i) = C.1 b (oI + i)) (h5 : ∀ i, i < 1440 → C'.2.1 (b + 1) (oJ + i) = C.2.1 (b + 1) (oJ + i)) (h3 : ∀ i, i < 6 → C'.1 (b + 2) (oD + i) = C.1 (b + 2) (oD + i) ∧ C'.1 (b + 3) (oD + i) = C.1 (b + 3) (oD + i)) (W : RWs C b oI oJ oD wd rs) : RWs C' b oI oJ oD wd rs := by
  refine ⟨fun b hb => ?_, fun q hq => (h3 q hq).2.trans (W.2 q hq)⟩
  obtain ⟨g1, g2, g3, g4⟩ := W.1 b hb
  refine ⟨g1, (h3 b hb).1.trans g2, g3, fun k r hr => ?_⟩
  have hk := get_lt hr
  exact ⟨(h2 _ (by omega)).trans (g4 k r hr).1, fun c hc => (h5 _ (by omega)).trans ((g4 k r hr).2 c hc)⟩
set_option maxRecDepth 100000 in
theorem SLC_k {u s bs a0 a1 a2 : Nat} (h : SLC 119 (240 * u) (1440 * u) (6 * u) bs a0 a1 a2 C0 C) (hne : s ≠ u) (W : RWs C0 119 (240 * s) (1440 * s) (6 * s) wd rs) : RWs C 119 (240 * s) (1440 * s) (6 * s) wd rs := RWs_c (fun i hi => h.1 _ _ (by omega) (by omega)) (fun i hi => h.2.2.2.1 _ _ (by omega)) (fun i hi => ⟨h.1 _ _ (by omega) (by omega), h.1 _ _ (by omega) (by omega)⟩) W
set_option maxRecDepth 100000 in
theorem RWs_J {q s : Nat} (hq : q ≠ 120) (W : RWs C 119 (240 * s) (1440 * s) (6 * s) wd rs) : RWs (sJ C q j v) 119 (240 * s) (1440 * s) (6 * s) wd rs := RWs_c (C := C) (fun _ _ => rfl) (fun i _ => by rw [sJ_2, if_neg (fun z => hq z.1.symm)]) (fun _ _ => ⟨rfl, rfl⟩) W
set_option maxRecDepth 100000 in
theorem shM_s (S : SLC 119 (240 * (2 + j)) (1440 * (2 + j)) (6 * (2 + j)) 119 (240 * (3 + j)) (1440 * (3 + j)) (6 * (3 + j)) (sJ C 123 j (C.2.1 123 (j + 1))) C1) (h : shM C1 C' (j + 1) f) : shM C C' j (f + 1) := by
  have e2 : ∀ q i, q ≠ 120 → C1.2.1 q i = if q = 123 ∧ i = j then C.2.1 123 (j + 1) else C.2.1 q i := fun q i hq => by
    rw [S.2.2.2.1 q i (by omega), sJ_2]
  refine ⟨fun q i z => (h.1 q i z).trans (S.1 q i (by omega) (by omega)), fun q i hq => ?_, h.2.2.1.trans S.2.2.2.2.2, fun s hs wd rs W => h.2.2.2 s hs wd rs ?_⟩
  · rw [h.2.1 q i hq]
    by_cases h1 : q = 123 ∧ j + 1 ≤ i ∧ i < j + 1 + f
    · rw [if_pos h1, if_pos ⟨h1.1, by omega, by omega⟩, e2 _ _ (by decide), if_neg (by omega)]
    · rw [if_neg h1, e2 q i hq]
      by_cases h2 : q = 123 ∧ i = j
      · rw [if_pos h2, if_pos ⟨h2.1, by omega, by omega⟩, h2.2]
      · rw [if_neg h2, if_neg (fun z => h1 ⟨z.1, by omega, by omega⟩)]
  · by_cases h1 : 2 + (j + 1) ≤ s ∧ s < 2 + (j + 1) + f
    · rw [if_pos h1]
      rw [if_pos (by omega)] at W
      exact SLC_k S (by omega) (RWs_J (by decide) W)
    · rw [if_neg h1]
      by_cases h2 : s = 2 + j
      · rw [if_pos (by omega)] at W
        subst h2
        rw [show 2 + j + 1 = 3 + j by omega] at W
        exact SLC_W S (RWs_J (by decide) W)
      · rw [if_neg (by omega)] at W
        exact SLC_k S h2 (RWs_J (by decide) W)
set_option maxRecDepth 100000 in
theorem lp_281 (h6 : nn ≤ 6) : ∀ (f j : Nat) (C : co_T), (j + f + 1 = nn ∨ (f = 0 ∧ nn ≤ j + 1 ∧ j ≤ 6)) → C.1 76 70 = nI nn → (∀ C', shM C C' j f → Wd L xs (d + 1) y_281 (62, [(2, .int (nI (j + f))), (1, .int (nI i)), (0, .ref 176)], [], MH C' t, sl) P X) → Wd L xs (d + 1) y_281 (22, [(2, .int (nI j)), (1, .int (nI i)), (0, .ref 176)], [], MH C t, sl) P X
  | 0, j, C, hj, hn, k => by
    refine w_p (pc1 := 23) rfl rfl ?_
    refine w_p (pc1 := 24) (st1 := .int 1 :: _) rfl rfl ?_
    refine w_iadd (pc1 := 25) (u := nI (j)) (v := nI (1)) (z := nI (j + 1)) rfl (nK_add) rfl ?_
    refine w_p (pc1 := 26) rfl rfl ?_
    refine w_m0 (pc1 := 29) (st1 := .int (nI (nn)) :: _) rfl rfl (h_gIe (j := 70) rfl rfl rfl rfl rfl (hn)) rfl ?_
    refine w_t (a := 62) (b := 32) (bN_ge_t (a := j + 1) (b := nn) (by omega) (by omega) (by omega)) rfl rfl ?_
    exact k C shM_0
  | f + 1, j, C, hj, hn, k => by
    have hj : j + (f + 1) + 1 = nn := by omega
    refine w_p (pc1 := 23) rfl rfl ?_
    refine w_p (pc1 := 24) (st1 := .int 1 :: _) rfl rfl ?_
    refine w_iadd (pc1 := 25) (u := nI (j)) (v := nI (1)) (z := nI (j + 1)) rfl (nK_add) rfl ?_
    refine w_p (pc1 := 26) rfl rfl ?_
    refine w_m0 (pc1 := 29) (st1 := .int (nI (nn)) :: _) rfl rfl (h_gIe (j := 70) rfl rfl rfl rfl rfl (hn)) rfl ?_
    refine w_f (a := 62) (b := 32) (bN_ge_f (a := j + 1) (b := nn) (by omega) (by omega) (by omega)) rfl rfl ?_
    refine w_p (pc1 := 33) rfl rfl ?_
    refine w_m0 (pc1 := 36) rfl rfl (h_gC rfl rfl rfl rfl) rfl ?_
    refine w_p (pc1 := 37) rfl rfl ?_
    refine w_p (pc1 := 38) rfl rfl ?_
    refine w_m0 (pc1 := 41) rfl rfl (h_gC rfl rfl rfl rfl) rfl ?_
    refine w_p (pc1 := 42) rfl rfl ?_
    refine w_p (pc1 := 43) (st1 := .int 1 :: _) rfl rfl ?_
    refine w_iadd (pc1 := 44) (u := nI (j)) (v := nI (1)) (z := nI (j + 1)) rfl (nK_add) rfl ?_
    refine w_m0 (pc1 := 45) rfl rfl (n_ll (e := j + 1) rfl rfl rfl (by omega)) rfl ?_
    refine w_m0 (pc1 := 46) rfl rfl (n_ls (e := j) rfl rfl rfl (by omega)) rfl ?_
    refine w_p (pc1 := 47) rfl rfl ?_
    refine w_p (pc1 := 48) (st1 := .int 3 :: _) rfl rfl ?_
    refine w_p (pc1 := 49) rfl rfl ?_
    refine w_iadd (pc1 := 50) (u := nI (3)) (v := nI (j)) (z := nI (3 + j)) rfl (nK_add) rfl ?_
    refine w_p (pc1 := 51) (st1 := .int 2 :: _) rfl rfl ?_
    refine w_p (pc1 := 52) rfl rfl ?_
    refine w_iadd (pc1 := 53) (u := nI (2)) (v := nI (j)) (z := nI (2 + j)) rfl (nK_add) rfl ?_
    refine w_ji (pc1 := 56) (vs := [.ref 176, .int (nI (3 + j)), .int (nI (2 + j))]) (rest := []) (m_282 (d := d) (sl := 0) (s := 3 + j) (u := 2 + j) (by omega) (by omega) (by omega)) rfl rfl rfl (fun _ _ => rfl) rfl (by exact cl_v my_282 rfl rfl rfl (Nat.le_of_ble_eq_true rfl) rfl (MH_obj rfl rfl) rfl (by decide) rfl rfl) (by rfl) (Nat.le_of_ble_eq_true rfl) (Nat.le_of_ble_eq_true rfl) rfl (fun v h q hq => ?_) (fun _ _ _ e => e.elim)
    obtain ⟨rfl, ⟨C2, S2, rfl⟩, rfl⟩ := hq
    refine w_iinc (pc1 := 59) (u := nI (j)) (z := nI (j + 1)) (al1 := [(2, .int (nI (j + 1))), (1, .int (nI (i))), (0, .ref 176)]) rfl rfl rfl nK_1 rfl rfl ?_
    refine w_p (pc1 := 22) rfl rfl ?_
    refine lp_281 h6 f (j + 1) C2 (by omega) ((S2.1 76 70 (by omega) (by omega)).trans hn) (fun C' h => ?_)
    have := k C' (shM_s S2 h)
    rw [show j + (f + 1) = j + 1 + f by omega] at this
    exact this
def smP (C : co_T) (i f p : Nat) (v : Int64) (C' : co_T) : Prop := ∃ C1 C2, shM C C1 i f ∧ SLC 119 (240 * (2 + p)) (1440 * (2 + p)) (6 * (2 + p)) 115 0 0 0 (sJ (sI C1 76 70 (nI p)) 123 p v) C2 ∧ sI C2 76 70 (nI (p + 1)) = C'
set_option maxRecDepth 100000 in
theorem t_281f (h6 : nn ≤ 6) (hi : i + f + 1 = nn) (hw : C.1 76 98 = nI i) (hn : C.1 76 70 = nI nn) (hv : C.2.1 76 99 = v) (h : shM C C1 i f) : Wd L xs (d + 1) y_281 (62, [(2, .int (nI (i + f))), (1, .int (nI i)), (0, .ref 176)], [], MH C1 t, sl) (fun v' h' q => none = v' ∧ (∃ C', smP C i f (nn - 1) v C' ∧ MH C' t = h') ∧ sl = q) nX := by
  have a1 : C1.1 76 70 = nI nn := (h.1 76 70 (by omega)).trans hn
  have a2 : C1.1 76 98 = nI i := (h.1 76 98 (by omega)).trans hw
  have a3 : C1.2.1 76 99 = v := (h.2.1 76 99 (by omega)).trans ((if_neg (by omega)).trans hv)
  have b1 : (sI C1 76 70 (nI (nn - 1))).1 76 70 = nI (nn - 1) := by rw [sI_1, if_pos ⟨rfl, rfl⟩]
  refine w_p (pc1 := 63) rfl rfl ?_
  refine w_p (pc1 := 64) rfl rfl ?_
  refine w_m0 (pc1 := 67) (st1 := .int (nI (nn)) :: _) rfl rfl (h_gIe (j := 70) rfl rfl rfl rfl rfl (a1)) rfl ?_
  refine w_p (pc1 := 68) rfl rfl ?_
  refine w_m0 (pc1 := 71) (st1 := .int (nI i) :: _) rfl rfl (h_gIe (j := 98) rfl rfl rfl rfl rfl (a2)) rfl ?_
  refine w_p (pc1 := 72) (st1 := .int (-1) :: _) rfl rfl ?_
  refine w_t (a := 79) (b := 75) (cb_ne_t (by exact nK_m1 (by omega))) rfl rfl ?_
  refine w_p (pc1 := 80) (st1 := .int 1 :: _) rfl rfl ?_
  refine w_isub (pc1 := 81) (u := nI (nn)) (v := nI (1)) (z := nI (nn - 1)) rfl (nK_sub (by omega)) rfl ?_
  refine w_m0 (pc1 := 84) rfl rfl (h_pI (j := 70) rfl rfl rfl rfl rfl rfl rfl ⟨rfl, rfl⟩ rfl) rfl ?_
  refine w_p (pc1 := 85) rfl rfl ?_
  refine w_m0 (pc1 := 88) rfl rfl (h_gC rfl rfl rfl rfl) rfl ?_
  refine w_p (pc1 := 89) rfl rfl ?_
  refine w_m0 (pc1 := 92) (st1 := .int (nI (nn - 1)) :: _) rfl rfl (h_gIe (j := 70) rfl rfl rfl rfl rfl (b1)) rfl ?_
  refine w_p (pc1 := 93) rfl rfl ?_
  refine w_m0 (pc1 := 96) (st1 := .long (v) :: _) rfl rfl (h_gJe (j := 99) rfl rfl rfl rfl rfl (a3)) rfl ?_
  refine w_m0 (pc1 := 97) rfl rfl (n_ls (e := nn - 1) rfl rfl rfl (by omega)) rfl ?_
  refine w_p (pc1 := 98) rfl rfl ?_
  refine w_p (pc1 := 99) (st1 := .int 2 :: _) rfl rfl ?_
  refine w_p (pc1 := 100) rfl rfl ?_
  refine w_m0 (pc1 := 103) (st1 := .int (nI (nn - 1)) :: _) rfl rfl (h_gIe (j := 70) rfl rfl rfl rfl rfl (b1)) rfl ?_
  refine w_iadd (pc1 := 104) (u := nI (2)) (v := nI (nn - 1)) (z := nI (2 + (nn - 1))) rfl (nK_add) rfl ?_
  refine w_ji (pc1 := 107) (vs := [.ref 176, .int (nI (2 + (nn - 1)))]) (rest := []) (m_249 (d := d) (sl := 0) (s := 2 + (nn - 1)) (by omega)) rfl rfl rfl (fun _ _ => rfl) rfl (by exact cl_v my_249 rfl rfl rfl (Nat.le_of_ble_eq_true rfl) rfl (MH_obj rfl rfl) rfl (by decide) rfl rfl) (by rfl) (Nat.le_of_ble_eq_true rfl) (Nat.le_of_ble_eq_true rfl) rfl (fun v h q hq => ?_) (fun _ _ _ e => e.elim)
  obtain ⟨rfl, ⟨C2, S2, rfl⟩, rfl⟩ := hq
  have c1 : C2.1 76 70 = nI (nn - 1) := (S2.1 76 70 (by omega) (by omega)).trans b1
  refine w_p (pc1 := 108) rfl rfl ?_
  refine w_p (pc1 := 109) rfl rfl ?_
  refine w_m0 (pc1 := 112) (st1 := .int (nI (nn - 1)) :: _) rfl rfl (h_gIe (j := 70) rfl rfl rfl rfl rfl (c1)) rfl ?_
  refine w_p (pc1 := 113) (st1 := .int 1 :: _) rfl rfl ?_
  refine w_iadd (pc1 := 114) (u := nI (nn - 1)) (v := nI (1)) (z := nI (nn - 1 + 1)) rfl (nK_add) rfl ?_
  refine w_m0 (pc1 := 117) rfl rfl (h_pI (j := 70) rfl rfl rfl rfl rfl rfl rfl ⟨rfl, rfl⟩ rfl) rfl ?_
  refine w_r rfl rfl rfl (fun _ _ => rfl) rfl ?_
  exact ⟨rfl, ⟨_, ⟨C1, C2, h, S2, rfl⟩, rfl⟩, rfl⟩
set_option maxRecDepth 100000 in
theorem t_281n (h6 : nn ≤ 6) (hi : i = nn) (hf : f = 0) (h5 : nn < 6) (hw : C.1 76 98 = -1) (hn : C.1 76 70 = nI nn) (hv : C.2.1 76 99 = v) (h : shM C C1 i f) : Wd L xs (d + 1) y_281 (62, [(2, .int (nI (i + f))), (1, .int (nI i)), (0, .ref 176)], [], MH C1 t, sl) (fun v' h' q => none = v' ∧ (∃ C', smP C i f (nn) v C' ∧ MH C' t = h') ∧ sl = q) nX := by
  have a1 : C1.1 76 70 = nI nn := (h.1 76 70 (by omega)).trans hn
  have a2 : C1.1 76 98 = -1 := (h.1 76 98 (by omega)).trans hw
  have a3 : C1.2.1 76 99 = v := (h.2.1 76 99 (by omega)).trans ((if_neg (by omega)).trans hv)
  have b1 : (sI C1 76 70 (nI (nn))).1 76 70 = nI (nn) := by rw [sI_1, if_pos ⟨rfl, rfl⟩]
  refine w_p (pc1 := 63) rfl rfl ?_
  refine w_p (pc1 := 64) rfl rfl ?_
  refine w_m0 (pc1 := 67) (st1 := .int (nI (nn)) :: _) rfl rfl (h_gIe (j := 70) rfl rfl rfl rfl rfl (a1)) rfl ?_
  refine w_p (pc1 := 68) rfl rfl ?_
  refine w_m0 (pc1 := 71) (st1 := .int ((-1)) :: _) rfl rfl (h_gIe (j := 98) rfl rfl rfl rfl rfl (a2)) rfl ?_
  refine w_p (pc1 := 72) (st1 := .int (-1) :: _) rfl rfl ?_
  refine w_f (a := 79) (b := 75) (cb_ne_f (by rfl)) rfl rfl ?_
  refine w_p (pc1 := 76) (st1 := .int 0 :: _) rfl rfl ?_
  refine w_p (pc1 := 80) rfl rfl ?_
  refine w_isub (pc1 := 81) (z := nI (nn)) rfl (nK_s0) rfl ?_
  refine w_m0 (pc1 := 84) rfl rfl (h_pI (j := 70) rfl rfl rfl rfl rfl rfl rfl ⟨rfl, rfl⟩ rfl) rfl ?_
  refine w_p (pc1 := 85) rfl rfl ?_
  refine w_m0 (pc1 := 88) rfl rfl (h_gC rfl rfl rfl rfl) rfl ?_
  refine w_p (pc1 := 89) rfl rfl ?_
  refine w_m0 (pc1 := 92) (st1 := .int (nI (nn)) :: _) rfl rfl (h_gIe (j := 70) rfl rfl rfl rfl rfl (b1)) rfl ?_
  refine w_p (pc1 := 93) rfl rfl ?_
  refine w_m0 (pc1 := 96) (st1 := .long (v) :: _) rfl rfl (h_gJe (j := 99) rfl rfl rfl rfl rfl (a3)) rfl ?_
  refine w_m0 (pc1 := 97) rfl rfl (n_ls (e := nn) rfl rfl rfl (by omega)) rfl ?_
  refine w_p (pc1 := 98) rfl rfl ?_
  refine w_p (pc1 := 99) (st1 := .int 2 :: _) rfl rfl ?_
  refine w_p (pc1 := 100) rfl rfl ?_
  refine w_m0 (pc1 := 103) (st1 := .int (nI (nn)) :: _) rfl rfl (h_gIe (j := 70) rfl rfl rfl rfl rfl (b1)) rfl ?_
  refine w_iadd (pc1 := 104) (u := nI (2)) (v := nI (nn)) (z := nI (2 + nn)) rfl (nK_add) rfl ?_
  refine w_ji (pc1 := 107) (vs := [.ref 176, .int (nI (2 + nn))]) (rest := []) (m_249 (d := d) (sl := 0) (s := 2 + (nn)) (by omega)) rfl rfl rfl (fun _ _ => rfl) rfl (by exact cl_v my_249 rfl rfl rfl (Nat.le_of_ble_eq_true rfl) rfl (MH_obj rfl rfl) rfl (by decide) rfl rfl) (by rfl) (Nat.le_of_ble_eq_true rfl) (Nat.le_of_ble_eq_true rfl) rfl (fun v h q hq => ?_) (fun _ _ _ e => e.elim)
  obtain ⟨rfl, ⟨C2, S2, rfl⟩, rfl⟩ := hq
  have c1 : C2.1 76 70 = nI (nn) := (S2.1 76 70 (by omega) (by omega)).trans b1
  refine w_p (pc1 := 108) rfl rfl ?_
  refine w_p (pc1 := 109) rfl rfl ?_
  refine w_m0 (pc1 := 112) (st1 := .int (nI (nn)) :: _) rfl rfl (h_gIe (j := 70) rfl rfl rfl rfl rfl (c1)) rfl ?_
  refine w_p (pc1 := 113) (st1 := .int 1 :: _) rfl rfl ?_
  refine w_iadd (pc1 := 114) (u := nI (nn)) (v := nI (1)) (z := nI (nn + 1)) rfl (nK_add) rfl ?_
  refine w_m0 (pc1 := 117) rfl rfl (h_pI (j := 70) rfl rfl rfl rfl rfl rfl rfl ⟨rfl, rfl⟩ rfl) rfl ?_
  refine w_r rfl rfl rfl (fun _ _ => rfl) rfl ?_
  exact ⟨rfl, ⟨_, ⟨C1, C2, h, S2, rfl⟩, rfl⟩, rfl⟩
end SMK
