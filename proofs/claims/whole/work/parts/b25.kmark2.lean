
/-! ONE SIDE: a mark is set, 2 -/
section MRK2
variable {L : Nat} {xs : Nat → Int32} {B : Nat → Nat} {n m : Nat} {C C' C0 C1 : co_T} {t t0 t1 : ab_H} {d sl sl0 sl1 i i0 i1 j b e ti k k0 kc ks w c : Nat} {sc : sc_T} {row : Option Nat} {tg : Option (Nat × Nat)} {nl : Option Nat} {kd0 tb0 : Int32} {P : Option Value → ab_H → Nat → Prop} {X : Nat → ab_H → Nat → Prop} {cs : List Nat} {ss : List (Option (List op_T))} {E : fe_T} {tr : Nat → Option tr_T} {wd : Nat → Nat} {rs : rs_T} {ce : Nat → Int64} {id sz la : Nat → Int32} {v : Int64} {nn f : Nat}
def mkR (C : co_T) (t : ab_H) (a nn : Nat) : Prop := ∀ q, a < q → q < nn → ∃ kk l, C.2.2 18 q = some (241 + kk) ∧ t[kk]? = some (.inr (3, l))
set_option maxRecDepth 100000 in
theorem b_156n (h6 : nn ≤ 6) (hi : i + f + 1 = nn) (hn : C.1 6 12 = nI nn) (hq : mkR C t i nn) (h0 : ∀ kk q, ¬ (kk = 6 ∧ q = 12) → C.1 kk q = C0.1 kk q) (h2 : C.2 = C0.2) (hk : C.2.2 18 i = none) (W : RWf (C.2.1 14) (C.1 15) (C.1 16) wd rs) (hl : ∀ q, q < 6 → C.1 17 q = (rs q).2) : Wd L xs (d + 3) y_156 (26, [(3, .int (nI i)), (0, .ref 106), (1, .long v)], [], MH C t, sl) (amN t wd rs (fun C' => amP C0 C' i nn v t.length) sl) nX := by
  refine w_p (pc1 := 27) rfl rfl ?_
  refine w_p (pc1 := 29) (st1 := .int 6 :: _) rfl rfl ?_
  refine w_f (a := 41) (b := 32) (bN_ge_f (a := i) (b := 6) (by omega) (by omega) (by omega)) rfl rfl ?_
  refine w_p (pc1 := 33) rfl rfl ?_
  refine w_m0 (pc1 := 36) (st1 := .int (nI (nn)) :: _) rfl rfl (h_gIe (j := 12) rfl rfl rfl rfl rfl (hn)) rfl ?_
  refine w_p (pc1 := 38) (st1 := .int 6 :: _) rfl rfl ?_
  refine w_t (a := 42) (b := 41) (bN_le_t (a := nn) (b := 6) (by omega) (by omega) (by omega)) rfl rfl ?_
  refine w_p (pc1 := 43) rfl rfl ?_
  refine w_m0 (pc1 := 46) rfl rfl (h_gC rfl rfl rfl rfl) rfl ?_
  refine w_p (pc1 := 47) rfl rfl ?_
  refine w_m0 (pc1 := 48) (st1 := .null :: _) rfl rfl (n_aln (e := i) rfl rfl (by decide) rfl (by omega) (hk)) rfl ?_
  refine w_p (pc1 := 50) (al1 := [(4, .null), (3, .int (nI (i))), (0, .ref 106), (1, .long (v))]) rfl rfl ?_
  refine w_p (pc1 := 51) rfl rfl ?_
  refine w_p (pc1 := 53) (al1 := [(5, .int (nI (i))), (4, .null), (3, .int (nI (i))), (0, .ref 106), (1, .long (v))]) rfl rfl ?_
  exact lp_156 h6 (Or.inl rfl) f i C hi hn hq (fun C' h => t_156n (Q := fun C' => amP C0 C' i nn v t.length) h6 (by omega) ((congrFun (congrFun h.1 6) 12).trans hn) (RWf_sh h W) (fun q z => by rw [h.1]; exact hl q z) (amP_s hi h0 h2 hn h))
set_option maxRecDepth 100000 in
theorem b_156y (h6 : nn ≤ 6) (hi : i + f + 1 = nn) (hn : C.1 6 12 = nI nn) (hq : mkR C t i nn) (h0 : ∀ kk q, ¬ (kk = 6 ∧ q = 12) → C.1 kk q = C0.1 kk q) (h2 : C.2 = C0.2) (hk : C.2.2 18 i = some (241 + k)) (R : RWo t k ce id sz la) (W : RWf (C.2.1 14) (C.1 15) (C.1 16) wd rs) (hl : ∀ q, q < 6 → C.1 17 q = (rs q).2) : Wd L xs (d + 3) y_156 (26, [(3, .int (nI i)), (0, .ref 106), (1, .long v)], [], MH C t, sl) (amY t k wd rs (fun C' => amP C0 C' i nn v k) sl) nX := by
  refine w_p (pc1 := 27) rfl rfl ?_
  refine w_p (pc1 := 29) (st1 := .int 6 :: _) rfl rfl ?_
  refine w_f (a := 41) (b := 32) (bN_ge_f (a := i) (b := 6) (by omega) (by omega) (by omega)) rfl rfl ?_
  refine w_p (pc1 := 33) rfl rfl ?_
  refine w_m0 (pc1 := 36) (st1 := .int (nI (nn)) :: _) rfl rfl (h_gIe (j := 12) rfl rfl rfl rfl rfl (hn)) rfl ?_
  refine w_p (pc1 := 38) (st1 := .int 6 :: _) rfl rfl ?_
  refine w_t (a := 42) (b := 41) (bN_le_t (a := nn) (b := 6) (by omega) (by omega) (by omega)) rfl rfl ?_
  refine w_p (pc1 := 43) rfl rfl ?_
  refine w_m0 (pc1 := 46) rfl rfl (h_gC rfl rfl rfl rfl) rfl ?_
  refine w_p (pc1 := 47) rfl rfl ?_
  refine w_m0 (pc1 := 48) (st1 := .ref (241 + k) :: _) rfl rfl (n_als (e := i) rfl rfl (by decide) rfl (by omega) (hk)) rfl ?_
  refine w_p (pc1 := 50) (al1 := [(4, .ref (241 + k)), (3, .int (nI (i))), (0, .ref 106), (1, .long (v))]) rfl rfl ?_
  refine w_p (pc1 := 51) rfl rfl ?_
  refine w_p (pc1 := 53) (al1 := [(5, .int (nI (i))), (4, .ref (241 + k)), (3, .int (nI (i))), (0, .ref 106), (1, .long (v))]) rfl rfl ?_
  exact lp_156 h6 (Or.inr ⟨_, rfl⟩) f i C hi hn hq (fun C' h => t_156y (Q := fun C' => amP C0 C' i nn v k) h6 (by omega) ((congrFun (congrFun h.1 6) 12).trans hn) R (RWf_sh h W) (fun q z => by rw [h.1]; exact hl q z) (amP_s hi h0 h2 hn h))
set_option maxRecDepth 100000 in
theorem m_156f (h6 : nn ≤ 6) (hi : i + f + 1 = nn) (hn : C.1 6 12 = nI nn) (hf : fnd (fun i => decide (C.2.1 19 i = v)) nn 0 = nI i) (hq : mkR C t i nn) (hk : C.2.2 18 i = some (241 + k)) (R : RWo t k ce id sz la) (W : RWf (C.2.1 14) (C.1 15) (C.1 16) wd rs) (hl : ∀ q, q < 6 → C.1 17 q = (rs q).2) : Wd L xs (d + 3) y_156 (0, [(0, .ref 106), (1, .long v)], [], MH C t, sl) (amY t k wd rs (fun C' => amP C C' i nn v k) sl) nX := by
  have h92 := m_92 (L := L) (xs := xs) (t := t) (d := d + 2) (sl := 0) (a := v) hn h6
  rw [hf] at h92
  refine w_p (pc1 := 1) rfl rfl ?_
  refine w_p (pc1 := 2) rfl rfl ?_
  refine w_je (pc1 := 5) (vs := [.ref 106, .long (v)]) (rest := []) (st1 := [.int (nI i)]) (h92) rfl rfl rfl (fun _ _ => rfl) rfl (by exact cl_v my_92 rfl rfl rfl (Nat.le_of_ble_eq_true rfl) rfl (MH_obj rfl rfl) rfl (by decide) rfl rfl) (by rfl) (Nat.le_of_ble_eq_true rfl) (Nat.le_of_ble_eq_true rfl) rfl (by rfl) ?_
  refine w_p (pc1 := 6) (al1 := [(3, .int (nI i)), (0, .ref 106), (1, .long (v))]) rfl rfl ?_
  refine w_p (pc1 := 7) rfl rfl ?_
  refine w_p (pc1 := 8) (st1 := .int (-1) :: _) rfl rfl ?_
  refine w_t (a := 26) (b := 11) (cb_ne_t (by exact nK_m1 (by omega))) rfl rfl ?_
  exact b_156y h6 hi hn hq (fun _ _ _ => rfl) rfl hk R W hl
set_option maxRecDepth 100000 in
theorem m_156n (h6 : nn < 6) (hn : C.1 6 12 = nI nn) (hf : fnd (fun i => decide (C.2.1 19 i = v)) nn 0 = -1) (hk : C.2.2 18 nn = none) (W : RWf (C.2.1 14) (C.1 15) (C.1 16) wd rs) (hl : ∀ q, q < 6 → C.1 17 q = (rs q).2) : Wd L xs (d + 3) y_156 (0, [(0, .ref 106), (1, .long v)], [], MH C t, sl) (amN t wd rs (fun C' => amP C C' nn (nn + 1) v t.length) sl) nX := by
  have h92 := m_92 (L := L) (xs := xs) (t := t) (d := d + 2) (sl := 0) (a := v) hn (Nat.le_of_lt h6)
  rw [hf] at h92
  refine w_p (pc1 := 1) rfl rfl ?_
  refine w_p (pc1 := 2) rfl rfl ?_
  refine w_je (pc1 := 5) (vs := [.ref 106, .long (v)]) (rest := []) (st1 := [.int ((-1))]) (h92) rfl rfl rfl (fun _ _ => rfl) rfl (by exact cl_v my_92 rfl rfl rfl (Nat.le_of_ble_eq_true rfl) rfl (MH_obj rfl rfl) rfl (by decide) rfl rfl) (by rfl) (Nat.le_of_ble_eq_true rfl) (Nat.le_of_ble_eq_true rfl) rfl (by rfl) ?_
  refine w_p (pc1 := 6) (al1 := [(3, .int ((-1))), (0, .ref 106), (1, .long (v))]) rfl rfl ?_
  refine w_p (pc1 := 7) rfl rfl ?_
  refine w_p (pc1 := 8) (st1 := .int (-1) :: _) rfl rfl ?_
  refine w_f (a := 26) (b := 11) (cb_ne_f (by rfl)) rfl rfl ?_
  refine w_p (pc1 := 12) rfl rfl ?_
  refine w_m0 (pc1 := 15) (st1 := .int (nI (nn)) :: _) rfl rfl (h_gIe (j := 12) rfl rfl rfl rfl rfl (hn)) rfl ?_
  refine w_p (pc1 := 16) (al1 := [(3, .int (nI (nn))), (0, .ref 106), (1, .long (v))]) rfl rfl ?_
  refine w_p (pc1 := 17) rfl rfl ?_
  refine w_p (pc1 := 18) rfl rfl ?_
  refine w_m0 (pc1 := 21) (st1 := .int (nI (nn)) :: _) rfl rfl (h_gIe (j := 12) rfl rfl rfl rfl rfl (hn)) rfl ?_
  refine w_p (pc1 := 22) (st1 := .int 1 :: _) rfl rfl ?_
  refine w_iadd (pc1 := 23) (u := nI (nn)) (v := nI (1)) (z := nI (nn + 1)) rfl (nK_add) rfl ?_
  refine w_m0 (pc1 := 26) rfl rfl (h_pI (j := 12) rfl rfl rfl rfl rfl rfl rfl ⟨rfl, rfl⟩ rfl) rfl ?_
  exact b_156n (C0 := C) (f := 0) (by omega) rfl (by rw [sI_1, if_pos ⟨rfl, rfl⟩]) (fun q a b => by omega) (fun kk q z => by rw [sI_1, if_neg z]) rfl hk W hl
set_option maxRecDepth 100000 in
theorem m_156y (h6 : nn < 6) (hn : C.1 6 12 = nI nn) (hf : fnd (fun i => decide (C.2.1 19 i = v)) nn 0 = -1) (hk : C.2.2 18 nn = some (241 + k)) (R : RWo t k ce id sz la) (W : RWf (C.2.1 14) (C.1 15) (C.1 16) wd rs) (hl : ∀ q, q < 6 → C.1 17 q = (rs q).2) : Wd L xs (d + 3) y_156 (0, [(0, .ref 106), (1, .long v)], [], MH C t, sl) (amY t k wd rs (fun C' => amP C C' nn (nn + 1) v k) sl) nX := by
  have h92 := m_92 (L := L) (xs := xs) (t := t) (d := d + 2) (sl := 0) (a := v) hn (Nat.le_of_lt h6)
  rw [hf] at h92
  refine w_p (pc1 := 1) rfl rfl ?_
  refine w_p (pc1 := 2) rfl rfl ?_
  refine w_je (pc1 := 5) (vs := [.ref 106, .long (v)]) (rest := []) (st1 := [.int ((-1))]) (h92) rfl rfl rfl (fun _ _ => rfl) rfl (by exact cl_v my_92 rfl rfl rfl (Nat.le_of_ble_eq_true rfl) rfl (MH_obj rfl rfl) rfl (by decide) rfl rfl) (by rfl) (Nat.le_of_ble_eq_true rfl) (Nat.le_of_ble_eq_true rfl) rfl (by rfl) ?_
  refine w_p (pc1 := 6) (al1 := [(3, .int ((-1))), (0, .ref 106), (1, .long (v))]) rfl rfl ?_
  refine w_p (pc1 := 7) rfl rfl ?_
  refine w_p (pc1 := 8) (st1 := .int (-1) :: _) rfl rfl ?_
  refine w_f (a := 26) (b := 11) (cb_ne_f (by rfl)) rfl rfl ?_
  refine w_p (pc1 := 12) rfl rfl ?_
  refine w_m0 (pc1 := 15) (st1 := .int (nI (nn)) :: _) rfl rfl (h_gIe (j := 12) rfl rfl rfl rfl rfl (hn)) rfl ?_
  refine w_p (pc1 := 16) (al1 := [(3, .int (nI (nn))), (0, .ref 106), (1, .long (v))]) rfl rfl ?_
  refine w_p (pc1 := 17) rfl rfl ?_
  refine w_p (pc1 := 18) rfl rfl ?_
  refine w_m0 (pc1 := 21) (st1 := .int (nI (nn)) :: _) rfl rfl (h_gIe (j := 12) rfl rfl rfl rfl rfl (hn)) rfl ?_
  refine w_p (pc1 := 22) (st1 := .int 1 :: _) rfl rfl ?_
  refine w_iadd (pc1 := 23) (u := nI (nn)) (v := nI (1)) (z := nI (nn + 1)) rfl (nK_add) rfl ?_
  refine w_m0 (pc1 := 26) rfl rfl (h_pI (j := 12) rfl rfl rfl rfl rfl rfl rfl ⟨rfl, rfl⟩ rfl) rfl ?_
  exact b_156y (C0 := C) (f := 0) (by omega) rfl (by rw [sI_1, if_pos ⟨rfl, rfl⟩]) (fun q a b => by omega) (fun kk q z => by rw [sI_1, if_neg z]) rfl hk R W hl
end MRK2
