
/-! ONE SIDE: a mark is set -/
section MRK
variable {L : Nat} {xs : Nat → Int32} {B : Nat → Nat} {n m : Nat} {C C' C0 C1 : co_T} {t t0 t1 : ab_H} {d sl sl0 sl1 i i0 i1 j b e ti k k0 kc ks w c : Nat} {sc : sc_T} {row : Option Nat} {tg : Option (Nat × Nat)} {nl : Option Nat} {kd0 tb0 : Int32} {P : Option Value → ab_H → Nat → Prop} {X : Nat → ab_H → Nat → Prop} {cs : List Nat} {ss : List (Option (List op_T))} {E : fe_T} {tr : Nat → Option tr_T} {ru : Nat → Option ru_T} {wd : Nat → Nat} {rs : rs_T} {ce : Nat → Int64} {id sz la : Nat → Int32} {v : Int64} {nn : Nat} {kv : Value} {iv : Int32}
def shP (C C' : co_T) (j f : Nat) : Prop := C'.1 = C.1 ∧ (∀ k q, C'.2.1 k q = if k = 19 ∧ j ≤ q ∧ q < j + f then C.2.1 19 (q + 1) else C.2.1 k q) ∧ (∀ k q, C'.2.2 k q = if k = 18 ∧ j ≤ q ∧ q < j + f then C.2.2 18 (q + 1) else C.2.2 k q)
set_option maxRecDepth 100000 in
theorem shP_0 : shP C C j 0 := ⟨rfl, fun k q => (if_neg (by omega)).symm, fun k q => (if_neg (by omega)).symm⟩
set_option maxRecDepth 100000 in
theorem shP_s {f : Nat} (h : shP (sJ (sQ C 18 j (C.2.2 18 (j + 1))) 19 j (C.2.1 19 (j + 1))) C' (j + 1) f) : shP C C' j (f + 1) := by
  refine ⟨h.1, fun k q => ?_, fun k q => ?_⟩
  · rw [h.2.1 k q]
    by_cases h1 : k = 19 ∧ j + 1 ≤ q ∧ q < j + 1 + f
    · rw [if_pos h1, if_pos ⟨h1.1, by omega, by omega⟩, sJ_2, if_neg (by omega), sQ_2]
    · rw [if_neg h1, sJ_2, sQ_2]
      by_cases h2 : k = 19 ∧ q = j
      · rw [if_pos h2, if_pos ⟨h2.1, by omega, by omega⟩, h2.2]
      · rw [if_neg h2, if_neg (fun z => h1 ⟨z.1, by omega, by omega⟩)]
  · rw [h.2.2 k q, sJ_3]
    by_cases h1 : k = 18 ∧ j + 1 ≤ q ∧ q < j + 1 + f
    · rw [if_pos h1, if_pos ⟨h1.1, by omega, by omega⟩, sQ_3, if_neg (by omega)]
    · rw [if_neg h1, sQ_3]
      by_cases h2 : k = 18 ∧ q = j
      · rw [if_pos h2, if_pos ⟨h2.1, by omega, by omega⟩, h2.2]
      · rw [if_neg h2, if_neg (fun z => h1 ⟨z.1, by omega, by omega⟩)]
set_option maxRecDepth 100000 in
theorem lp_156 (h6 : nn ≤ 6) (hv : kv = .null ∨ ∃ a, kv = .ref a) : ∀ (f j : Nat) (C : co_T), j + f + 1 = nn → C.1 6 12 = nI nn → (∀ q, j < q → q < nn → ∃ kk l, C.2.2 18 q = some (241 + kk) ∧ t[kk]? = some (.inr (3, l))) → (∀ C', shP C C' j f → Wd L xs (d + 3) y_156 (102, [(5, .int (nI (j + f))), (4, kv), (3, .int iv), (0, .ref 106), (1, .long v)], [], MH C' t, sl) P X) → Wd L xs (d + 3) y_156 (53, [(5, .int (nI j)), (4, kv), (3, .int iv), (0, .ref 106), (1, .long v)], [], MH C t, sl) P X
  | 0, j, C, hj, hn, hq, w => by
    refine w_p (pc1 := 55) rfl rfl ?_
    refine w_p (pc1 := 56) rfl rfl ?_
    refine w_m0 (pc1 := 59) (st1 := .int (nI (nn)) :: _) rfl rfl (h_gIe (j := 12) rfl rfl rfl rfl rfl (hn)) rfl ?_
    refine w_p (pc1 := 60) (st1 := .int 1 :: _) rfl rfl ?_
    refine w_isub (pc1 := 61) (u := nI (nn)) (v := nI (1)) (z := nI (nn - 1)) rfl (nK_sub (by omega)) rfl ?_
    refine w_t (a := 102) (b := 64) (bN_ge_t (a := j) (b := nn - 1) (by omega) (by omega) (by omega)) rfl rfl ?_
    exact w C shP_0
  | f + 1, j, C, hj, hn, hq, w => by
    obtain ⟨kk, l, hk, ht⟩ := hq (j + 1) (by omega) (by omega)
    have e : sJ (sQ C 18 j (some (241 + kk))) 19 j ((sQ C 18 j (some (241 + kk))).2.1 19 (j + 1)) = sJ (sQ C 18 j (C.2.2 18 (j + 1))) 19 j (C.2.1 19 (j + 1)) := by rw [hk]; rfl
    have ih := lp_156 h6 hv f (j + 1) (sJ (sQ C 18 j (some (241 + kk))) 19 j ((sQ C 18 j (some (241 + kk))).2.1 19 (j + 1))) (by omega) hn (fun q a b => by
      obtain ⟨kk', l', h1, h2⟩ := hq q (by omega) b
      refine ⟨kk', l', ?_, h2⟩
      rw [sJ_3, sQ_3, if_neg (by omega)]
      exact h1) (fun C' h => by
      rw [e] at h
      have := w C' (shP_s h)
      rw [show j + (f + 1) = j + 1 + f by omega] at this
      exact this)
    rcases hv with rfl | ⟨a, rfl⟩
    · refine w_p (pc1 := 55) rfl rfl ?_
      refine w_p (pc1 := 56) rfl rfl ?_
      refine w_m0 (pc1 := 59) (st1 := .int (nI (nn)) :: _) rfl rfl (h_gIe (j := 12) rfl rfl rfl rfl rfl (hn)) rfl ?_
      refine w_p (pc1 := 60) (st1 := .int 1 :: _) rfl rfl ?_
      refine w_isub (pc1 := 61) (u := nI (nn)) (v := nI (1)) (z := nI (nn - 1)) rfl (nK_sub (by omega)) rfl ?_
      refine w_f (a := 102) (b := 64) (bN_ge_f (a := j) (b := nn - 1) (by omega) (by omega) (by omega)) rfl rfl ?_
      refine w_p (pc1 := 65) rfl rfl ?_
      refine w_m0 (pc1 := 68) rfl rfl (h_gC rfl rfl rfl rfl) rfl ?_
      refine w_p (pc1 := 70) rfl rfl ?_
      refine w_p (pc1 := 71) rfl rfl ?_
      refine w_m0 (pc1 := 74) rfl rfl (h_gC rfl rfl rfl rfl) rfl ?_
      refine w_p (pc1 := 76) rfl rfl ?_
      refine w_p (pc1 := 77) (st1 := .int 1 :: _) rfl rfl ?_
      refine w_iadd (pc1 := 78) (u := nI (j)) (v := nI (1)) (z := nI (j + 1)) rfl (nK_add) rfl ?_
      refine w_m0 (pc1 := 79) (st1 := .ref (241 + kk) :: _) rfl rfl (n_als (e := j + 1) rfl rfl (by decide) rfl (by omega) (hk)) rfl ?_
      refine w_m0 (pc1 := 80) rfl rfl (x_asF (k := 18) (e := j) rfl rfl ht rfl (by omega) (by omega)) rfl ?_
      refine w_p (pc1 := 81) rfl rfl ?_
      refine w_m0 (pc1 := 84) rfl rfl (h_gC rfl rfl rfl rfl) rfl ?_
      refine w_p (pc1 := 86) rfl rfl ?_
      refine w_p (pc1 := 87) rfl rfl ?_
      refine w_m0 (pc1 := 90) rfl rfl (h_gC rfl rfl rfl rfl) rfl ?_
      refine w_p (pc1 := 92) rfl rfl ?_
      refine w_p (pc1 := 93) (st1 := .int 1 :: _) rfl rfl ?_
      refine w_iadd (pc1 := 94) (u := nI (j)) (v := nI (1)) (z := nI (j + 1)) rfl (nK_add) rfl ?_
      refine w_m0 (pc1 := 95) rfl rfl (n_ll (e := j + 1) rfl rfl rfl (by omega)) rfl ?_
      refine w_m0 (pc1 := 96) rfl rfl (n_ls (e := j) rfl rfl rfl (by omega)) rfl ?_
      refine w_iinc (pc1 := 99) (u := nI (j)) (z := nI (j + 1)) (al1 := [(5, .int (nI (j + 1))), (4, .null), (3, .int (iv)), (0, .ref 106), (1, .long (v))]) rfl rfl rfl nK_1 rfl rfl ?_
      refine w_p (pc1 := 53) rfl rfl ?_
      exact ih
    · refine w_p (pc1 := 55) rfl rfl ?_
      refine w_p (pc1 := 56) rfl rfl ?_
      refine w_m0 (pc1 := 59) (st1 := .int (nI (nn)) :: _) rfl rfl (h_gIe (j := 12) rfl rfl rfl rfl rfl (hn)) rfl ?_
      refine w_p (pc1 := 60) (st1 := .int 1 :: _) rfl rfl ?_
      refine w_isub (pc1 := 61) (u := nI (nn)) (v := nI (1)) (z := nI (nn - 1)) rfl (nK_sub (by omega)) rfl ?_
      refine w_f (a := 102) (b := 64) (bN_ge_f (a := j) (b := nn - 1) (by omega) (by omega) (by omega)) rfl rfl ?_
      refine w_p (pc1 := 65) rfl rfl ?_
      refine w_m0 (pc1 := 68) rfl rfl (h_gC rfl rfl rfl rfl) rfl ?_
      refine w_p (pc1 := 70) rfl rfl ?_
      refine w_p (pc1 := 71) rfl rfl ?_
      refine w_m0 (pc1 := 74) rfl rfl (h_gC rfl rfl rfl rfl) rfl ?_
      refine w_p (pc1 := 76) rfl rfl ?_
      refine w_p (pc1 := 77) (st1 := .int 1 :: _) rfl rfl ?_
      refine w_iadd (pc1 := 78) (u := nI (j)) (v := nI (1)) (z := nI (j + 1)) rfl (nK_add) rfl ?_
      refine w_m0 (pc1 := 79) (st1 := .ref (241 + kk) :: _) rfl rfl (n_als (e := j + 1) rfl rfl (by decide) rfl (by omega) (hk)) rfl ?_
      refine w_m0 (pc1 := 80) rfl rfl (x_asF (k := 18) (e := j) rfl rfl ht rfl (by omega) (by omega)) rfl ?_
      refine w_p (pc1 := 81) rfl rfl ?_
      refine w_m0 (pc1 := 84) rfl rfl (h_gC rfl rfl rfl rfl) rfl ?_
      refine w_p (pc1 := 86) rfl rfl ?_
      refine w_p (pc1 := 87) rfl rfl ?_
      refine w_m0 (pc1 := 90) rfl rfl (h_gC rfl rfl rfl rfl) rfl ?_
      refine w_p (pc1 := 92) rfl rfl ?_
      refine w_p (pc1 := 93) (st1 := .int 1 :: _) rfl rfl ?_
      refine w_iadd (pc1 := 94) (u := nI (j)) (v := nI (1)) (z := nI (j + 1)) rfl (nK_add) rfl ?_
      refine w_m0 (pc1 := 95) rfl rfl (n_ll (e := j + 1) rfl rfl rfl (by omega)) rfl ?_
      refine w_m0 (pc1 := 96) rfl rfl (n_ls (e := j) rfl rfl rfl (by omega)) rfl ?_
      refine w_iinc (pc1 := 99) (u := nI (j)) (z := nI (j + 1)) (al1 := [(5, .int (nI (j + 1))), (4, .ref (a)), (3, .int (iv)), (0, .ref 106), (1, .long (v))]) rfl rfl rfl nK_1 rfl rfl ?_
      refine w_p (pc1 := 53) rfl rfl ?_
      exact ih
set_option maxRecDepth 100000 in
theorem RWf_sh {f : Nat} (h : shP C C' j f) (W : RWf (C.2.1 14) (C.1 15) (C.1 16) wd rs) : RWf (C'.2.1 14) (C'.1 15) (C'.1 16) wd rs := by
  rw [h.1, show C'.2.1 14 = C.2.1 14 from funext (fun q => (h.2.1 14 q).trans (if_neg (by omega)))]
  exact W
/-! what a mark changes in the fixed cells -/
def amP (C C' : co_T) (i nn : Nat) (v : Int64) (k : Nat) : Prop := (∀ kk q, ¬ (kk = 6 ∧ q = 12) → C'.1 kk q = C.1 kk q) ∧ C'.1 6 12 = nI nn ∧ (∀ kk q, C'.2.1 kk q = if kk = 19 ∧ i ≤ q ∧ q < nn then (if q + 1 = nn then v else C.2.1 19 (q + 1)) else C.2.1 kk q) ∧ (∀ kk q, C'.2.2 kk q = if kk = 18 ∧ i ≤ q ∧ q < nn then (if q + 1 = nn then some (241 + k) else C.2.2 18 (q + 1)) else C.2.2 kk q)
set_option maxRecDepth 100000 in
theorem amP_s {f : Nat} (hn : i + f + 1 = nn) (h0 : ∀ kk q, ¬ (kk = 6 ∧ q = 12) → C0.1 kk q = C.1 kk q) (h2 : C0.2 = C.2) (h1 : C0.1 6 12 = nI nn) (h : shP C0 C' i f) : amP C (sJ (sQ C' 18 (nn - 1) (some (241 + k))) 19 (nn - 1) v) i nn v k := by
  refine ⟨fun kk q z => ?_, ?_, fun kk q => ?_, fun kk q => ?_⟩
  · rw [sJ_1, sQ_1, h.1]
    exact h0 kk q z
  · rw [sJ_1, sQ_1, h.1]
    exact h1
  · rw [sJ_2, sQ_2, h.2.1, h2]
    by_cases a : kk = 19 ∧ q = nn - 1
    · rw [if_pos a, if_pos ⟨a.1, by omega, by omega⟩, if_pos (by omega)]
    · rw [if_neg a]
      by_cases b : kk = 19 ∧ i ≤ q ∧ q < i + f
      · rw [if_pos b, if_pos ⟨b.1, b.2.1, by omega⟩, if_neg (by omega)]
      · rw [if_neg b, if_neg (fun z => b ⟨z.1, z.2.1, by omega⟩)]
  · rw [sJ_3, sQ_3, h.2.2, h2]
    by_cases a : kk = 18 ∧ q = nn - 1
    · rw [if_pos a, if_pos ⟨a.1, by omega, by omega⟩, if_pos (by omega)]
    · rw [if_neg a]
      by_cases b : kk = 18 ∧ i ≤ q ∧ q < i + f
      · rw [if_pos b, if_pos ⟨b.1, b.2.1, by omega⟩, if_neg (by omega)]
      · rw [if_neg b, if_neg (fun z => b ⟨z.1, z.2.1, by omega⟩)]
abbrev amN (t : ab_H) (wd : Nat → Nat) (rs : rs_T) (Q : co_T → Prop) (sl : Nat) : Option Value → ab_H → Nat → Prop := fun v h q => none = v ∧ (∃ C' t', (Q C' ∧ t'.length = t.length + 5 ∧ tlE t t' ∧ RWt t' t.length wd rs) ∧ MH C' t' = h) ∧ q ≤ sl + 1700
abbrev amY (t : ab_H) (k : Nat) (wd : Nat → Nat) (rs : rs_T) (Q : co_T → Prop) (sl : Nat) : Option Value → ab_H → Nat → Prop := fun v h q => none = v ∧ (∃ C' t', (Q C' ∧ frU k t t' ∧ RWt t' k wd rs) ∧ MH C' t' = h) ∧ sl = q
set_option maxRecDepth 100000 in
theorem t_156n (h6 : nn ≤ 6) (h1 : 1 ≤ nn) (hn : C.1 6 12 = nI nn) (W : RWf (C.2.1 14) (C.1 15) (C.1 16) wd rs) (hl : ∀ q, q < 6 → C.1 17 q = (rs q).2) {Q : co_T → Prop} (hQ : Q (sJ (sQ C 18 (nn - 1) (some (241 + t.length))) 19 (nn - 1) v)) : Wd L xs (d + 3) y_156 (102, [(5, .int (nI (i + e))), (4, .null), (3, .int iv), (0, .ref 106), (1, .long v)], [], MH C t, sl) (amN t wd rs Q sl) nX := by
  refine w_p (pc1 := 103) rfl rfl ?_
  refine w_m0 (pc1 := 106) rfl rfl (h_gC rfl rfl rfl rfl) rfl ?_
  refine w_p (pc1 := 107) rfl rfl ?_
  refine w_m0 (pc1 := 110) (st1 := .int (nI (nn)) :: _) rfl rfl (h_gIe (j := 12) rfl rfl rfl rfl rfl (hn)) rfl ?_
  refine w_p (pc1 := 111) (st1 := .int 1 :: _) rfl rfl ?_
  refine w_isub (pc1 := 112) (u := nI (nn)) (v := nI (1)) (z := nI (nn - 1)) rfl (nK_sub (by omega)) rfl ?_
  refine w_p (pc1 := 113) rfl rfl ?_
  refine w_p (pc1 := 115) rfl rfl ?_
  refine w_ji (pc1 := 118) (vs := [.ref 106, .null]) (rest := [.int (nI (nn - 1)), .ref 118]) (m_151n (d := d) (sl := 0) W hl) rfl rfl rfl (fun _ _ => rfl) rfl (by exact cl_v my_151 rfl rfl rfl (Nat.le_of_ble_eq_true rfl) rfl (MH_obj rfl rfl) rfl (by decide) rfl rfl) (by rfl) (Nat.le_of_ble_eq_true rfl) (Nat.le_of_ble_eq_true rfl) rfl (fun v h q hq => ?_) (fun _ _ _ e => e.elim)
  obtain ⟨rfl, ⟨t3, n3, rfl⟩, hq⟩ := hq
  have n4 := n3.2.2
  obtain ⟨_, _, _, _, R1⟩ := n4
  refine w_m0 (pc1 := 119) rfl rfl (x_asF (k := 18) (e := nn - 1) rfl rfl R1.1.1 rfl (by omega) (by omega)) rfl ?_
  refine w_p (pc1 := 120) rfl rfl ?_
  refine w_m0 (pc1 := 123) rfl rfl (h_gC rfl rfl rfl rfl) rfl ?_
  refine w_p (pc1 := 124) rfl rfl ?_
  refine w_m0 (pc1 := 127) (st1 := .int (nI (nn)) :: _) rfl rfl (h_gIe (j := 12) rfl rfl rfl rfl rfl (hn)) rfl ?_
  refine w_p (pc1 := 128) (st1 := .int 1 :: _) rfl rfl ?_
  refine w_isub (pc1 := 129) (u := nI (nn)) (v := nI (1)) (z := nI (nn - 1)) rfl (nK_sub (by omega)) rfl ?_
  refine w_p (pc1 := 130) rfl rfl ?_
  refine w_m0 (pc1 := 131) rfl rfl (n_ls (e := nn - 1) rfl rfl rfl (by omega)) rfl ?_
  refine w_r rfl rfl rfl (fun _ _ => rfl) rfl ?_
  exact ⟨rfl, ⟨_, t3, ⟨hQ, n3⟩, rfl⟩, by omega⟩
set_option maxRecDepth 100000 in
theorem t_156y (h6 : nn ≤ 6) (h1 : 1 ≤ nn) (hn : C.1 6 12 = nI nn) (R : RWo t k ce id sz la) (W : RWf (C.2.1 14) (C.1 15) (C.1 16) wd rs) (hl : ∀ q, q < 6 → C.1 17 q = (rs q).2) {Q : co_T → Prop} (hQ : Q (sJ (sQ C 18 (nn - 1) (some (241 + k))) 19 (nn - 1) v)) : Wd L xs (d + 3) y_156 (102, [(5, .int (nI (i + e))), (4, .ref (241 + k)), (3, .int iv), (0, .ref 106), (1, .long v)], [], MH C t, sl) (amY t k wd rs Q sl) nX := by
  refine w_p (pc1 := 103) rfl rfl ?_
  refine w_m0 (pc1 := 106) rfl rfl (h_gC rfl rfl rfl rfl) rfl ?_
  refine w_p (pc1 := 107) rfl rfl ?_
  refine w_m0 (pc1 := 110) (st1 := .int (nI (nn)) :: _) rfl rfl (h_gIe (j := 12) rfl rfl rfl rfl rfl (hn)) rfl ?_
  refine w_p (pc1 := 111) (st1 := .int 1 :: _) rfl rfl ?_
  refine w_isub (pc1 := 112) (u := nI (nn)) (v := nI (1)) (z := nI (nn - 1)) rfl (nK_sub (by omega)) rfl ?_
  refine w_p (pc1 := 113) rfl rfl ?_
  refine w_p (pc1 := 115) rfl rfl ?_
  refine w_ji (pc1 := 118) (vs := [.ref 106, .ref (241 + k)]) (rest := [.int (nI (nn - 1)), .ref 118]) (m_151y (d := d) (sl := 0) W hl R) rfl rfl rfl (fun _ _ => rfl) rfl (by exact cl_v my_151 rfl rfl rfl (Nat.le_of_ble_eq_true rfl) rfl (MH_obj rfl rfl) rfl (by decide) rfl rfl) (by rfl) (Nat.le_of_ble_eq_true rfl) (Nat.le_of_ble_eq_true rfl) rfl (fun v h q hq => ?_) (fun _ _ _ e => e.elim)
  obtain ⟨rfl, ⟨t3, n3, rfl⟩, rfl⟩ := hq
  have n4 := n3.2
  obtain ⟨_, _, _, _, R1⟩ := n4
  refine w_m0 (pc1 := 119) rfl rfl (x_asF (k := 18) (e := nn - 1) rfl rfl R1.1.1 rfl (by omega) (by omega)) rfl ?_
  refine w_p (pc1 := 120) rfl rfl ?_
  refine w_m0 (pc1 := 123) rfl rfl (h_gC rfl rfl rfl rfl) rfl ?_
  refine w_p (pc1 := 124) rfl rfl ?_
  refine w_m0 (pc1 := 127) (st1 := .int (nI (nn)) :: _) rfl rfl (h_gIe (j := 12) rfl rfl rfl rfl rfl (hn)) rfl ?_
  refine w_p (pc1 := 128) (st1 := .int 1 :: _) rfl rfl ?_
  refine w_isub (pc1 := 129) (u := nI (nn)) (v := nI (1)) (z := nI (nn - 1)) rfl (nK_sub (by omega)) rfl ?_
  refine w_p (pc1 := 130) rfl rfl ?_
  refine w_m0 (pc1 := 131) rfl rfl (n_ls (e := nn - 1) rfl rfl rfl (by omega)) rfl ?_
  refine w_r rfl rfl rfl (fun _ _ => rfl) rfl ?_
  exact ⟨rfl, ⟨_, t3, ⟨hQ, n3⟩, rfl⟩, rfl⟩
end MRK
