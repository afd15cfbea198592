
/-! THE OTHER SIDE: all is cleared; how many -/
section MCL
variable {L : Nat} {xs : Nat → Int32} {B : Nat → Nat} {n m : Nat} {C C' C0 C1 : co_T} {t t0 t1 : ab_H} {d sl sl0 sl1 i i0 i1 j b e ti k k0 kc ks w c : Nat} {sc : sc_T} {row : Option Nat} {tg : Option (Nat × Nat)} {nl : Option Nat} {kd0 tb0 : Int32} {P : Option Value → ab_H → Nat → Prop} {X : Nat → ab_H → Nat → Prop} {cs : List Nat} {ss : List (Option (List op_T))} {E : fe_T} {tr : Nat → Option tr_T} {x r y z : Int32} {a : Int64} {n1 n2 n3 c1 c2 c3 : Nat} {fT fR fG : Nat → Bool} {u : Bool}
def clA (C0 C : co_T) (i : Nat) : Prop := (∀ q j, ¬ ((q = 78 ∨ q = 117 ∨ q = 118) ∧ j < i) → C.1 q j = C0.1 q j) ∧ (∀ j, j < i → C.1 78 j = 0 ∧ C.1 117 j = 0 ∧ C.1 118 j = 1) ∧ C.2 = C0.2
set_option maxRecDepth 100000 in
theorem clA_0 : clA C C 0 := ⟨fun _ _ _ => rfl, fun j h => by omega, rfl⟩
set_option maxRecDepth 100000 in
theorem clA_s (h : clA C0 C i) : clA C0 (sI (sI (sI C 78 i 0) 117 i 0) 118 i 1) (i + 1) := by
  refine ⟨fun q j z => ?_, fun j hj => ?_, h.2.2⟩
  · rw [sI_1, if_neg (fun e => z ⟨Or.inr (Or.inr e.1), by omega⟩), sI_1, if_neg (fun e => z ⟨Or.inr (Or.inl e.1), by omega⟩), sI_1, if_neg (fun e => z ⟨Or.inl e.1, by omega⟩)]
    exact h.1 q j (fun e => z ⟨e.1, by omega⟩)
  · have hh : j < i → C.1 78 j = 0 ∧ C.1 117 j = 0 ∧ C.1 118 j = 1 := h.2.1 j
    simp only [sI_1]
    by_cases e : j = i
    · simp [e]
    · simp [e, hh (by omega)]
set_option maxRecDepth 100000 in
theorem lp_186a (k : ∀ C', clA C0 C' 6 → Wd L xs d y_186 (35, [(1, .int (nI 6)), (0, .ref 176)], [], MH C' t, sl) P X) : ∀ (f i : Nat) (C : co_T), i + f = 6 → clA C0 C i → Wd L xs d y_186 (2, [(1, .int (nI i)), (0, .ref 176)], [], MH C t, sl) P X
  | 0, i, C, hi, F => by
    obtain rfl : i = 6 := by omega
    refine w_p (pc1 := 3) rfl rfl ?_
    refine w_p (pc1 := 5) (st1 := .int 6 :: _) rfl rfl ?_
    refine w_t (a := 35) (b := 8) (bN_ge_t (a := 6) (b := 6) (by omega) (by omega) (by omega)) rfl rfl ?_
    exact k C F
  | f + 1, i, C, hi, F => by
    have ih := lp_186a k f (i + 1) _ (by omega) (clA_s F)
    refine w_p (pc1 := 3) rfl rfl ?_
    refine w_p (pc1 := 5) (st1 := .int 6 :: _) rfl rfl ?_
    refine w_f (a := 35) (b := 8) (bN_ge_f (a := i) (b := 6) (by omega) (by omega) (by omega)) rfl rfl ?_
    refine w_p (pc1 := 9) rfl rfl ?_
    refine w_m0 (pc1 := 12) rfl rfl (h_gC rfl rfl rfl rfl) rfl ?_
    refine w_p (pc1 := 13) rfl rfl ?_
    refine w_p (pc1 := 14) (st1 := .int 0 :: _) rfl rfl ?_
    refine w_m0 (pc1 := 15) rfl rfl (n_bs (e := i) rfl rfl (by decide) rfl (by omega)) rfl ?_
    refine w_p (pc1 := 16) rfl rfl ?_
    refine w_m0 (pc1 := 19) rfl rfl (h_gC rfl rfl rfl rfl) rfl ?_
    refine w_p (pc1 := 20) rfl rfl ?_
    refine w_p (pc1 := 21) (st1 := .int 0 :: _) rfl rfl ?_
    refine w_m0 (pc1 := 22) rfl rfl (n_is (e := i) rfl rfl rfl (by omega)) rfl ?_
    refine w_p (pc1 := 23) rfl rfl ?_
    refine w_m0 (pc1 := 26) rfl rfl (h_gC rfl rfl rfl rfl) rfl ?_
    refine w_p (pc1 := 27) rfl rfl ?_
    refine w_p (pc1 := 28) (st1 := .int 1 :: _) rfl rfl ?_
    refine w_m0 (pc1 := 29) rfl rfl (n_is (e := i) rfl rfl rfl (by omega)) rfl ?_
    refine w_iinc (pc1 := 32) (u := nI (i)) (z := nI (i + 1)) (al1 := [(1, .int (nI (i + 1))), (0, .ref 176)]) rfl rfl rfl nK_1 rfl rfl ?_
    refine w_p (pc1 := 2) rfl rfl ?_
    exact ih
set_option maxRecDepth 100000 in
theorem lp_186b (k : ∀ C', flU C0 C' 83 24 (fun _ => 0) → Wd L xs d y_186 (56, [(1, .int (nI 24)), (0, .ref 176)], [], MH C' t, sl) P X) : ∀ (f i : Nat) (C : co_T), i + f = 24 → flU C0 C 83 i (fun _ => 0) → Wd L xs d y_186 (37, [(1, .int (nI i)), (0, .ref 176)], [], MH C t, sl) P X
  | 0, i, C, hi, F => by
    obtain rfl : i = 24 := by omega
    refine w_p (pc1 := 38) rfl rfl ?_
    refine w_p (pc1 := 40) (st1 := .int 24 :: _) rfl rfl ?_
    refine w_t (a := 56) (b := 43) (bN_ge_t (a := 24) (b := 24) (by omega) (by omega) (by omega)) rfl rfl ?_
    exact k C F
  | f + 1, i, C, hi, F => by
    have ih := lp_186b k f (i + 1) _ (by omega) (flU_s F)
    refine w_p (pc1 := 38) rfl rfl ?_
    refine w_p (pc1 := 40) (st1 := .int 24 :: _) rfl rfl ?_
    refine w_f (a := 56) (b := 43) (bN_ge_f (a := i) (b := 24) (by omega) (by omega) (by omega)) rfl rfl ?_
    refine w_p (pc1 := 44) rfl rfl ?_
    refine w_m0 (pc1 := 47) rfl rfl (h_gC rfl rfl rfl rfl) rfl ?_
    refine w_p (pc1 := 48) rfl rfl ?_
    refine w_p (pc1 := 49) (st1 := .int 0 :: _) rfl rfl ?_
    refine w_m0 (pc1 := 50) rfl rfl (n_bs (e := i) rfl rfl (by decide) rfl (by omega)) rfl ?_
    refine w_iinc (pc1 := 53) (u := nI (i)) (z := nI (i + 1)) (al1 := [(1, .int (nI (i + 1))), (0, .ref 176)]) rfl rfl rfl nK_1 rfl rfl ?_
    refine w_p (pc1 := 37) rfl rfl ?_
    exact ih
set_option maxRecDepth 100000 in
theorem lp_186c (k : ∀ C', flU C0 C' 95 8 (fun _ => 0) → Wd L xs d y_186 (77, [(1, .int (nI 8)), (0, .ref 176)], [], MH C' t, sl) P X) : ∀ (f i : Nat) (C : co_T), i + f = 8 → flU C0 C 95 i (fun _ => 0) → Wd L xs d y_186 (58, [(1, .int (nI i)), (0, .ref 176)], [], MH C t, sl) P X
  | 0, i, C, hi, F => by
    obtain rfl : i = 8 := by omega
    refine w_p (pc1 := 59) rfl rfl ?_
    refine w_p (pc1 := 61) (st1 := .int 8 :: _) rfl rfl ?_
    refine w_t (a := 77) (b := 64) (bN_ge_t (a := 8) (b := 8) (by omega) (by omega) (by omega)) rfl rfl ?_
    exact k C F
  | f + 1, i, C, hi, F => by
    have ih := lp_186c k f (i + 1) _ (by omega) (flU_s F)
    refine w_p (pc1 := 59) rfl rfl ?_
    refine w_p (pc1 := 61) (st1 := .int 8 :: _) rfl rfl ?_
    refine w_f (a := 77) (b := 64) (bN_ge_f (a := i) (b := 8) (by omega) (by omega) (by omega)) rfl rfl ?_
    refine w_p (pc1 := 65) rfl rfl ?_
    refine w_m0 (pc1 := 68) rfl rfl (h_gC rfl rfl rfl rfl) rfl ?_
    refine w_p (pc1 := 69) rfl rfl ?_
    refine w_p (pc1 := 70) (st1 := .int 0 :: _) rfl rfl ?_
    refine w_m0 (pc1 := 71) rfl rfl (n_bs (e := i) rfl rfl (by decide) rfl (by omega)) rfl ?_
    refine w_iinc (pc1 := 74) (u := nI (i)) (z := nI (i + 1)) (al1 := [(1, .int (nI (i + 1))), (0, .ref 176)]) rfl rfl rfl nK_1 rfl rfl ?_
    refine w_p (pc1 := 58) rfl rfl ?_
    exact ih
abbrev clC (C : co_T) : co_T := sI (sI (sI (sI (sI (sI (sI C 76 69 0) 76 70 0) 76 2 0) 76 102 0) 76 93 0) 76 95 0) 76 101 0
set_option maxRecDepth 100000 in
theorem m_186 : Wd L xs d y_186 (0, [(0, .ref 176)], [], MH C t, sl) (fun v h q => none = v ∧ (∃ C1 C2 C3, clA C C1 6 ∧ flU C1 C2 83 24 (fun _ => 0) ∧ flU C2 C3 95 8 (fun _ => 0) ∧ MH (clC C3) t = h) ∧ sl = q) nX := by
  refine w_p (pc1 := 1) (st1 := .int 0 :: _) rfl rfl ?_
  refine w_p (pc1 := 2) (al1 := [(1, .int 0), (0, .ref 176)]) rfl rfl ?_
  refine lp_186a (C0 := C) (fun C1 F1 => ?_) 6 0 C rfl clA_0
  refine w_p (pc1 := 36) (st1 := .int 0 :: _) rfl rfl ?_
  refine w_p (pc1 := 37) (al1 := [(1, .int 0), (0, .ref 176)]) rfl rfl ?_
  refine lp_186b (C0 := C1) (fun C2 F2 => ?_) 24 0 C1 rfl flU_0
  refine w_p (pc1 := 57) (st1 := .int 0 :: _) rfl rfl ?_
  refine w_p (pc1 := 58) (al1 := [(1, .int 0), (0, .ref 176)]) rfl rfl ?_
  refine lp_186c (C0 := C2) (fun C3 F3 => ?_) 8 0 C2 rfl flU_0
  refine w_p (pc1 := 78) rfl rfl ?_
  refine w_p (pc1 := 79) (st1 := .int 0 :: _) rfl rfl ?_
  refine w_m0 (pc1 := 82) rfl rfl (h_pI (j := 69) rfl rfl rfl rfl rfl rfl rfl ⟨rfl, rfl⟩ rfl) rfl ?_
  refine w_p (pc1 := 83) rfl rfl ?_
  refine w_p (pc1 := 84) (st1 := .int 0 :: _) rfl rfl ?_
  refine w_m0 (pc1 := 87) rfl rfl (h_pI (j := 70) rfl rfl rfl rfl rfl rfl rfl ⟨rfl, rfl⟩ rfl) rfl ?_
  refine w_p (pc1 := 88) rfl rfl ?_
  refine w_p (pc1 := 89) (st1 := .int 0 :: _) rfl rfl ?_
  refine w_m0 (pc1 := 92) rfl rfl (h_pI (j := 2) rfl rfl rfl rfl rfl rfl rfl ⟨rfl, rfl⟩ rfl) rfl ?_
  refine w_p (pc1 := 93) rfl rfl ?_
  refine w_p (pc1 := 94) (st1 := .int 0 :: _) rfl rfl ?_
  refine w_m0 (pc1 := 97) rfl rfl (h_pI (j := 102) rfl rfl rfl rfl rfl rfl rfl ⟨rfl, rfl⟩ rfl) rfl ?_
  refine w_p (pc1 := 98) rfl rfl ?_
  refine w_p (pc1 := 99) (st1 := .int 0 :: _) rfl rfl ?_
  refine w_m0 (pc1 := 102) rfl rfl (h_pI (j := 93) rfl rfl rfl rfl rfl rfl rfl ⟨rfl, rfl⟩ rfl) rfl ?_
  refine w_p (pc1 := 103) rfl rfl ?_
  refine w_p (pc1 := 104) (st1 := .int 0 :: _) rfl rfl ?_
  refine w_m0 (pc1 := 107) rfl rfl (h_pI (j := 95) rfl rfl rfl rfl rfl rfl rfl ⟨rfl, rfl⟩ rfl) rfl ?_
  refine w_p (pc1 := 108) rfl rfl ?_
  refine w_p (pc1 := 109) (st1 := .int 0 :: _) rfl rfl ?_
  refine w_m0 (pc1 := 112) rfl rfl (h_pI (j := 101) rfl rfl rfl rfl rfl rfl rfl ⟨rfl, rfl⟩ rfl) rfl ?_
  refine w_r rfl rfl rfl (fun _ _ => rfl) rfl ?_
  exact ⟨rfl, ⟨C1, C2, C3, F1, F2, F3, rfl⟩, rfl⟩
set_option maxRecDepth 100000 in
theorem m_295 : Wd L xs (d + 1) y_295 (0, [(0, .ref 176)], [], MH C t, sl) (fun v h q => none = v ∧ (∃ C1 C2 C3, clA (sI C 76 0 0) C1 6 ∧ flU C1 C2 83 24 (fun _ => 0) ∧ flU C2 C3 95 8 (fun _ => 0) ∧ MH (clC C3) t = h) ∧ sl = q) nX := by
  refine w_p (pc1 := 1) rfl rfl ?_
  refine w_p (pc1 := 2) (st1 := .int 0 :: _) rfl rfl ?_
  refine w_m0 (pc1 := 5) rfl rfl (h_pI (j := 0) rfl rfl rfl rfl rfl rfl rfl ⟨rfl, rfl⟩ rfl) rfl ?_
  refine w_p (pc1 := 6) rfl rfl ?_
  refine w_ji (pc1 := 9) (vs := [.ref 176]) (rest := []) (m_186 (d := d) (sl := 0)) rfl rfl rfl (fun _ _ => rfl) rfl (by exact cl_v my_186 rfl rfl rfl (Nat.le_of_ble_eq_true rfl) rfl (MH_obj rfl rfl) rfl (by decide) rfl rfl) (by rfl) (Nat.le_of_ble_eq_true rfl) (Nat.le_of_ble_eq_true rfl) rfl (fun v h q hz => ?_) (fun _ _ _ e => e.elim)
  obtain ⟨rfl, ⟨C1, C2, C3, F1, F2, F3, rfl⟩, rfl⟩ := hz
  refine w_r rfl rfl rfl (fun _ _ => rfl) rfl ?_
  exact ⟨rfl, ⟨C1, C2, C3, F1, F2, F3, rfl⟩, rfl⟩
end MCL
