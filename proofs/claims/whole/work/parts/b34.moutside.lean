
/-! THE OTHER SIDE: what is done outside of a transaction -/
section OUS
variable {L : Nat} {xs : Nat → Int32} {B : Nat → Nat} {n m : Nat} {C C' C0 C1 : co_T} {t t0 t1 : ab_H} {d sl sl0 sl1 i i0 i1 j b e ti k k0 kc ks w c : Nat} {sc : sc_T} {row : Option Nat} {tg : Option (Nat × Nat)} {nl : Option Nat} {kd0 tb0 : Int32} {P : Option Value → ab_H → Nat → Prop} {X : Nat → ab_H → Nat → Prop} {cs : List Nat} {ss : List (Option (List op_T))} {E : fe_T} {tr : Nat → Option tr_T} {l : List Nat} {wt nm : Nat → Bool} {z : Bool} {Pc : Option Value → ab_H → Nat → Prop}
def slR (l : List Nat) (C0 C : co_T) (i : Nat) : Prop := (∀ q j, q ≠ 83 → C.1 q j = C0.1 q j) ∧ (∀ x, C.1 83 x = if x ∈ l.take i then 1 else C0.1 83 x) ∧ C.2 = C0.2
set_option maxRecDepth 100000 in
theorem slR_0 : slR l C C 0 := ⟨fun _ _ _ => rfl, fun x => (by rw [if_neg (by rw [List.take_zero]; exact List.not_mem_nil)]), rfl⟩
set_option maxRecDepth 100000 in
theorem slR_s {x : Nat} (h : slR l C0 C i) (hx : l[i]? = some x) : slR l C0 (sI C 83 x 1) (i + 1) := by
  refine ⟨fun q j hq => ?_, fun y => ?_, h.2.2⟩
  · rw [sI_1, if_neg (fun e => hq e.1)]
    exact h.1 q j hq
  · have ht : l.take (i + 1) = l.take i ++ [x] := by rw [List.take_add_one, hx]; rfl
    rw [sI_1, ht, h.2.1 y]
    by_cases e : y = x
    · rw [if_pos ⟨rfl, e⟩, if_pos (List.mem_append.mpr (Or.inr (List.mem_singleton.mpr e)))]
    · rw [if_neg (fun q => e q.2)]
      by_cases m : y ∈ l.take i
      · rw [if_pos m, if_pos (List.mem_append.mpr (Or.inl m))]
      · rw [if_neg m, if_neg (fun q => (List.mem_append.mp q).elim m (fun q => e (List.mem_singleton.mp q)))]
set_option maxRecDepth 100000 in
theorem lp_284t (hl : l.length ≤ 24) (hn : C0.1 76 58 = nI l.length) (hx : ∀ k x, l[k]? = some x → C0.1 114 k = nI x ∧ x < 24) (k : ∀ C', slR l C0 C' l.length → Wd L xs d y_284 (94, [(1, .int (nI l.length)), (0, .ref 176)], [], MH C' t, sl) P X) : ∀ (f i : Nat) (C : co_T), i + f = l.length → slR l C0 C i → Wd L xs d y_284 (68, [(1, .int (nI i)), (0, .ref 176)], [], MH C t, sl) P X
  | 0, i, C, hi, F => by
    obtain rfl : i = l.length := by omega
    have h1 : C.1 76 58 = nI l.length := (F.1 76 58 (by decide)).trans hn
    refine w_p (pc1 := 69) rfl rfl ?_
    refine w_p (pc1 := 70) rfl rfl ?_
    refine w_m0 (pc1 := 73) (st1 := .int (nI (l.length)) :: _) rfl rfl (h_gIe (j := 58) rfl rfl rfl rfl rfl (h1)) rfl ?_
    refine w_t (a := 94) (b := 76) (bN_ge_t (a := l.length) (b := l.length) (by omega) (by omega) (by omega)) rfl rfl ?_
    exact k C F
  | f + 1, i, C, hi, F => by
    have h1 : C.1 76 58 = nI l.length := (F.1 76 58 (by decide)).trans hn
    have hil : i < l.length := by omega
    obtain ⟨x, ex⟩ : ∃ x, l[i]? = some x := ⟨_, List.getElem?_eq_getElem hil⟩
    obtain ⟨x1, x2⟩ := hx i x ex
    have h2 : C.1 114 i = nI x := (F.1 114 i (by decide)).trans x1
    have ih := lp_284t hl hn hx k f (i + 1) (sI C 83 x 1) (by omega) (slR_s F ex)
    refine w_p (pc1 := 69) rfl rfl ?_
    refine w_p (pc1 := 70) rfl rfl ?_
    refine w_m0 (pc1 := 73) (st1 := .int (nI (l.length)) :: _) rfl rfl (h_gIe (j := 58) rfl rfl rfl rfl rfl (h1)) rfl ?_
    refine w_f (a := 94) (b := 76) (bN_ge_f (a := i) (b := l.length) (by omega) (by omega) (by omega)) rfl rfl ?_
    refine w_p (pc1 := 77) rfl rfl ?_
    refine w_m0 (pc1 := 80) rfl rfl (h_gC rfl rfl rfl rfl) rfl ?_
    refine w_p (pc1 := 81) rfl rfl ?_
    refine w_m0 (pc1 := 84) rfl rfl (h_gC rfl rfl rfl rfl) rfl ?_
    refine w_p (pc1 := 85) rfl rfl ?_
    refine w_m0 (pc1 := 86) (st1 := .int (nI (x)) :: _) rfl rfl (n_ile (e := i) rfl rfl rfl (by omega) (h2)) rfl ?_
    refine w_p (pc1 := 87) (st1 := .int 1 :: _) rfl rfl ?_
    refine w_m0 (pc1 := 88) rfl rfl (n_bs (e := x) rfl rfl (by decide) rfl (by omega)) rfl ?_
    refine w_iinc (pc1 := 91) (u := nI (i)) (z := nI (i + 1)) (al1 := [(1, .int (nI (i + 1))), (0, .ref 176)]) rfl rfl rfl nK_1 rfl rfl ?_
    refine w_p (pc1 := 68) rfl rfl ?_
    exact ih
def ntM (C : co_T) (b : Nat) : co_T := sI (sI (sI C 78 b 1) 117 b 0) 118 b 1
set_option maxRecDepth 100000 in
theorem ntM_o {q : Nat} (h1 : q ≠ 78) (h2 : q ≠ 117) (h3 : q ≠ 118) : (ntM C b).1 q j = C.1 q j := by
  unfold ntM
  rw [sI_1, if_neg (fun z => h3 z.1), sI_1, if_neg (fun z => h2 z.1), sI_1, if_neg (fun z => h1 z.1)]
set_option maxRecDepth 100000 in
theorem m_284_1 (hs : C.1 76 97 = 1) (hb : b < 6) (h57 : C.1 76 57 = nI b) (hl : l.length ≤ 24) (hn : C.1 76 58 = nI l.length) (hx : ∀ k x, l[k]? = some x → C.1 114 k = nI x ∧ x < 24) : Wd L xs d y_284 (0, [(0, .ref 176)], [], MH C t, sl) (fun v h q => some (.int (nI 0)) = v ∧ (∃ C', slR l (ntM C b) C' l.length ∧ MH C' t = h) ∧ sl = q) nX := by
  have g1 : (sI C 78 b 1).1 76 57 = nI b := by rw [sI_1, if_neg (by omega)]; exact h57
  have g2 : (sI (sI C 78 b 1) 117 b 0).1 76 57 = nI b := by rw [sI_1, if_neg (by omega)]; exact g1
  refine w_p (pc1 := 1) rfl rfl ?_
  refine w_m0 (pc1 := 4) (st1 := .int 1 :: _) rfl rfl (h_gIe (j := 97) rfl rfl rfl rfl rfl (hs)) rfl ?_
  refine w_p (pc1 := 36) rfl rfl ?_
  refine w_p (pc1 := 37) rfl rfl ?_
  refine w_m0 (pc1 := 40) rfl rfl (h_gC rfl rfl rfl rfl) rfl ?_
  refine w_p (pc1 := 41) rfl rfl ?_
  refine w_m0 (pc1 := 44) (st1 := .int (nI (b)) :: _) rfl rfl (h_gIe (j := 57) rfl rfl rfl rfl rfl (h57)) rfl ?_
  refine w_p (pc1 := 45) (st1 := .int 1 :: _) rfl rfl ?_
  refine w_m0 (pc1 := 46) rfl rfl (n_bs (e := b) rfl rfl (by decide) rfl (by omega)) rfl ?_
  refine w_p (pc1 := 47) rfl rfl ?_
  refine w_m0 (pc1 := 50) rfl rfl (h_gC rfl rfl rfl rfl) rfl ?_
  refine w_p (pc1 := 51) rfl rfl ?_
  refine w_m0 (pc1 := 54) (st1 := .int (nI (b)) :: _) rfl rfl (h_gIe (j := 57) rfl rfl rfl rfl rfl (g1)) rfl ?_
  refine w_p (pc1 := 55) (st1 := .int 0 :: _) rfl rfl ?_
  refine w_m0 (pc1 := 56) rfl rfl (n_is (e := b) rfl rfl rfl (by omega)) rfl ?_
  refine w_p (pc1 := 57) rfl rfl ?_
  refine w_m0 (pc1 := 60) rfl rfl (h_gC rfl rfl rfl rfl) rfl ?_
  refine w_p (pc1 := 61) rfl rfl ?_
  refine w_m0 (pc1 := 64) (st1 := .int (nI (b)) :: _) rfl rfl (h_gIe (j := 57) rfl rfl rfl rfl rfl (g2)) rfl ?_
  refine w_p (pc1 := 65) (st1 := .int 1 :: _) rfl rfl ?_
  refine w_m0 (pc1 := 66) rfl rfl (n_is (e := b) rfl rfl rfl (by omega)) rfl ?_
  refine w_p (pc1 := 67) (st1 := .int 0 :: _) rfl rfl ?_
  refine w_p (pc1 := 68) (al1 := [(1, .int 0), (0, .ref 176)]) rfl rfl ?_
  refine lp_284t (C0 := ntM C b) hl ((ntM_o (by decide) (by decide) (by decide)).trans hn) (fun k x e => ⟨(ntM_o (by decide) (by decide) (by decide)).trans (hx k x e).1, (hx k x e).2⟩) (fun C' F' => ?_) l.length 0 _ (Nat.zero_add _) slR_0
  refine w_p (pc1 := 95) (st1 := .int 0 :: _) rfl rfl ?_
  refine w_r rfl rfl rfl (fun _ _ => rfl) cr_int ?_
  exact ⟨rfl, ⟨C', F', rfl⟩, rfl⟩
set_option maxRecDepth 100000 in
theorem m_284_2 {s : Nat} (hs : C.1 76 97 = 2) (h8 : s < 8) (h60 : C.1 76 60 = nI s) : Wd L xs d y_284 (0, [(0, .ref 176)], [], MH C t, sl) (Rt (some (.int (nI 0))) (MH (sI C 95 s 1) t) sl) nX := by
  refine w_p (pc1 := 1) rfl rfl ?_
  refine w_m0 (pc1 := 4) (st1 := .int 2 :: _) rfl rfl (h_gIe (j := 97) rfl rfl rfl rfl rfl (hs)) rfl ?_
  refine w_p (pc1 := 96) rfl rfl ?_
  refine w_p (pc1 := 97) rfl rfl ?_
  refine w_m0 (pc1 := 100) rfl rfl (h_gC rfl rfl rfl rfl) rfl ?_
  refine w_p (pc1 := 101) rfl rfl ?_
  refine w_m0 (pc1 := 104) (st1 := .int (nI (s)) :: _) rfl rfl (h_gIe (j := 60) rfl rfl rfl rfl rfl (h60)) rfl ?_
  refine w_p (pc1 := 105) (st1 := .int 1 :: _) rfl rfl ?_
  refine w_m0 (pc1 := 106) rfl rfl (n_bs (e := s) rfl rfl (by decide) rfl (by omega)) rfl ?_
  refine w_p (pc1 := 107) (st1 := .int 0 :: _) rfl rfl ?_
  refine w_r rfl rfl rfl (fun _ _ => rfl) cr_int ?_
  exact ⟨rfl, rfl, rfl⟩
set_option maxRecDepth 100000 in
theorem m_284_4 {s : Nat} (hs : C.1 76 97 = 4) (h8 : s < 8) (hw : C.1 76 98 = nI s) : Wd L xs d y_284 (0, [(0, .ref 176)], [], MH C t, sl) (Rt (some (.int (nI 0))) (MH (sI C 95 s 0) t) sl) nX := by
  refine w_p (pc1 := 1) rfl rfl ?_
  refine w_m0 (pc1 := 4) (st1 := .int 4 :: _) rfl rfl (h_gIe (j := 97) rfl rfl rfl rfl rfl (hs)) rfl ?_
  refine w_p (pc1 := 132) rfl rfl ?_
  refine w_p (pc1 := 133) rfl rfl ?_
  refine w_m0 (pc1 := 136) rfl rfl (h_gC rfl rfl rfl rfl) rfl ?_
  refine w_p (pc1 := 137) rfl rfl ?_
  refine w_m0 (pc1 := 140) (st1 := .int (nI (s)) :: _) rfl rfl (h_gIe (j := 98) rfl rfl rfl rfl rfl (hw)) rfl ?_
  refine w_p (pc1 := 141) (st1 := .int 0 :: _) rfl rfl ?_
  refine w_m0 (pc1 := 142) rfl rfl (n_bs (e := s) rfl rfl (by decide) rfl (by omega)) rfl ?_
  refine w_p (pc1 := 143) (st1 := .int 0 :: _) rfl rfl ?_
  refine w_r rfl rfl rfl (fun _ _ => rfl) cr_int ?_
  exact ⟨rfl, rfl, rfl⟩
set_option maxRecDepth 100000 in
theorem m_284_3u (hs : C.1 76 97 = 3) (hw : C.1 76 98 = nI b) (w : Wd L xs d y_285 (0, [(0, .ref 176), (1, .int (nI b))], [], MH C t, 0) (Rt (some (.int (ck true))) (MH C t) 0) nX) : Wd L xs (d + 1) y_284 (0, [(0, .ref 176)], [], MH C t, sl) (Rt (some (.int (nI 7))) (MH C t) sl) nX := by
  refine w_p (pc1 := 1) rfl rfl ?_
  refine w_m0 (pc1 := 4) (st1 := .int 3 :: _) rfl rfl (h_gIe (j := 97) rfl rfl rfl rfl rfl (hs)) rfl ?_
  refine w_p (pc1 := 108) rfl rfl ?_
  refine w_p (pc1 := 109) rfl rfl ?_
  refine w_p (pc1 := 110) rfl rfl ?_
  refine w_m0 (pc1 := 113) (st1 := .int (nI (b)) :: _) rfl rfl (h_gIe (j := 98) rfl rfl rfl rfl rfl (hw)) rfl ?_
  refine w_je (pc1 := 116) (vs := [.ref 176, .int (nI (b))]) (rest := []) (st1 := [.int 1]) (w) rfl rfl rfl (fun _ _ => rfl) rfl (by exact cl_v my_285 rfl rfl rfl (Nat.le_of_ble_eq_true rfl) rfl (MH_obj rfl rfl) rfl (by decide) rfl rfl) (by rfl) (Nat.le_of_ble_eq_true rfl) (Nat.le_of_ble_eq_true rfl) rfl (by rfl) ?_
  refine w_f (a := 122) (b := 119) rfl rfl rfl ?_
  refine w_p (pc1 := 121) (st1 := .int 7 :: _) rfl rfl ?_
  refine w_r rfl rfl rfl (fun _ _ => rfl) cr_int ?_
  exact ⟨rfl, rfl, rfl⟩
set_option maxRecDepth 100000 in
theorem m_284_3n (hs : C.1 76 97 = 3) (hw : C.1 76 98 = nI b) (w : Wd L xs d y_285 (0, [(0, .ref 176), (1, .int (nI b))], [], MH C t, 0) (Rt (some (.int (ck false))) (MH C t) 0) nX) (w2 : Wd L xs d y_286 (0, [(0, .ref 176), (1, .int (nI b))], [], MH C t, 0) Pc nX) (hP : ∀ v h q, Pc v h q → v = none ∧ P (some (.int (nI 0))) h (sl + q)) : Wd L xs (d + 1) y_284 (0, [(0, .ref 176)], [], MH C t, sl) P nX := by
  refine w_p (pc1 := 1) rfl rfl ?_
  refine w_m0 (pc1 := 4) (st1 := .int 3 :: _) rfl rfl (h_gIe (j := 97) rfl rfl rfl rfl rfl (hs)) rfl ?_
  refine w_p (pc1 := 108) rfl rfl ?_
  refine w_p (pc1 := 109) rfl rfl ?_
  refine w_p (pc1 := 110) rfl rfl ?_
  refine w_m0 (pc1 := 113) (st1 := .int (nI (b)) :: _) rfl rfl (h_gIe (j := 98) rfl rfl rfl rfl rfl (hw)) rfl ?_
  refine w_je (pc1 := 116) (vs := [.ref 176, .int (nI (b))]) (rest := []) (st1 := [.int 0]) (w) rfl rfl rfl (fun _ _ => rfl) rfl (by exact cl_v my_285 rfl rfl rfl (Nat.le_of_ble_eq_true rfl) rfl (MH_obj rfl rfl) rfl (by decide) rfl rfl) (by rfl) (Nat.le_of_ble_eq_true rfl) (Nat.le_of_ble_eq_true rfl) rfl (by rfl) ?_
  refine w_t (a := 122) (b := 119) rfl rfl rfl ?_
  refine w_p (pc1 := 123) rfl rfl ?_
  refine w_p (pc1 := 124) rfl rfl ?_
  refine w_m0 (pc1 := 127) (st1 := .int (nI (b)) :: _) rfl rfl (h_gIe (j := 98) rfl rfl rfl rfl rfl (hw)) rfl ?_
  refine w_ji (pc1 := 130) (vs := [.ref 176, .int (nI (b))]) (rest := []) (w2) rfl rfl rfl (fun _ _ => rfl) rfl (by exact cl_v my_286 rfl rfl rfl (Nat.le_of_ble_eq_true rfl) rfl (MH_obj rfl rfl) rfl (by decide) rfl rfl) (by rfl) (Nat.le_of_ble_eq_true rfl) (Nat.le_of_ble_eq_true rfl) rfl (fun v h q hq => ?_) (fun _ _ _ e => e.elim)
  obtain ⟨rfl, hq2⟩ := hP _ _ _ hq
  refine w_p (pc1 := 131) (st1 := .int 0 :: _) rfl rfl ?_
  refine w_r rfl rfl rfl (fun _ _ => rfl) cr_int ?_
  exact hq2
set_option maxRecDepth 100000 in
theorem m_284_6 (hs : C.1 76 97 = 6) (hw : ∀ j, j < 24 → C.1 83 j = ck (wt j)) (hn : ∀ j, j < 24 → wt j = true → C.1 90 j = ck (nm j)) : Wd L xs (d + 1) y_284 (0, [(0, .ref 176)], [], MH C t, sl) (fun v h q => some (.int (nI 0)) = v ∧ (∃ C2 C3, SLC 119 (240 * 1) (1440 * 1) (6 * 1) 115 0 0 0 (sI (sI C 76 69 1) 76 70 0) C2 ∧ flU C2 C3 91 24 (fun j => ck (wt j && nm j)) ∧ MH C3 t = h) ∧ sl = q) nX := by
  have e : ∀ q j, q ≠ 76 → (sI (sI C 76 69 1) 76 70 0).1 q j = C.1 q j := fun q j h => by rw [sI_1, if_neg (fun z => h z.1), sI_1, if_neg (fun z => h z.1)]
  refine w_p (pc1 := 1) rfl rfl ?_
  refine w_m0 (pc1 := 4) (st1 := .int 6 :: _) rfl rfl (h_gIe (j := 97) rfl rfl rfl rfl rfl (hs)) rfl ?_
  refine w_p (pc1 := 144) rfl rfl ?_
  refine w_p (pc1 := 145) rfl rfl ?_
  refine w_p (pc1 := 146) (st1 := .int 1 :: _) rfl rfl ?_
  refine w_m0 (pc1 := 149) rfl rfl (h_pI (j := 69) rfl rfl rfl rfl rfl rfl rfl ⟨rfl, rfl⟩ rfl) rfl ?_
  refine w_p (pc1 := 150) rfl rfl ?_
  refine w_p (pc1 := 151) (st1 := .int 0 :: _) rfl rfl ?_
  refine w_m0 (pc1 := 154) rfl rfl (h_pI (j := 70) rfl rfl rfl rfl rfl rfl rfl ⟨rfl, rfl⟩ rfl) rfl ?_
  refine w_p (pc1 := 155) rfl rfl ?_
  refine w_p (pc1 := 156) (st1 := .int 1 :: _) rfl rfl ?_
  refine w_ji (pc1 := 159) (vs := [.ref 176, .int 1]) (rest := []) (m_249 (d := d) (sl := 0) (s := 1) (by omega)) rfl rfl rfl (fun _ _ => rfl) rfl (by exact cl_v my_249 rfl rfl rfl (Nat.le_of_ble_eq_true rfl) rfl (MH_obj rfl rfl) rfl (by decide) rfl rfl) (by rfl) (Nat.le_of_ble_eq_true rfl) (Nat.le_of_ble_eq_true rfl) rfl (fun v h q hq => ?_) (fun _ _ _ e => e.elim)
  obtain ⟨rfl, ⟨C2, S2, rfl⟩, rfl⟩ := hq
  refine w_p (pc1 := 160) (st1 := .int 0 :: _) rfl rfl ?_
  refine w_p (pc1 := 161) (al1 := [(1, .int 0), (0, .ref 176)]) rfl rfl ?_
  refine lp_284 (C0 := C2) (wt := wt) (nm := nm) (fun j hj => (S2.1 83 j (by omega) (by omega)).trans ((e 83 j (by decide)).trans (hw j hj))) (fun j hj z => (S2.1 90 j (by omega) (by omega)).trans ((e 90 j (by decide)).trans (hn j hj z))) (fun C3 F3 => ?_) 24 0 _ rfl flU_0
  refine w_p (pc1 := 203) (st1 := .int 0 :: _) rfl rfl ?_
  refine w_r rfl rfl rfl (fun _ _ => rfl) cr_int ?_
  exact ⟨rfl, ⟨C2, C3, S2, F3, rfl⟩, rfl⟩
end OUS
