
/-! THE OTHER SIDE'S ENGINE: a row is inserted, updated, deleted -/
def TA (C0 C : co_T) (b k i q : Nat) : Prop := (∀ kk j, kk ≠ 115 → C.1 kk j = C0.1 kk j) ∧ (∀ j, C.1 115 j = if 40 * b + k ≤ j ∧ j < 40 * b + i then C0.1 115 (j + 1) else C0.1 115 j) ∧ (∀ kk j, kk ≠ 116 → C.2.1 kk j = C0.2.1 kk j) ∧ (∀ j, C.2.1 116 j = if 6 * (40 * b + k) ≤ j ∧ j < q then C0.2.1 116 (j + 6) else C0.2.1 116 j) ∧ C.2.2 = C0.2.2
def WV (C0 C : co_T) (b k F c : Nat) : Prop := (∀ kk j, C.1 kk j = C0.1 kk j) ∧ (∀ kk j, kk ≠ 116 → C.2.1 kk j = C0.2.1 kk j) ∧ (∀ j, C.2.1 116 j = if 6 * (40 * b + k) ≤ j ∧ j < 6 * (40 * b + k) + c then C0.2.1 136 (6 * F + (j - 6 * (40 * b + k))) else C0.2.1 116 j) ∧ C.2.2 = C0.2.2
section MEb
variable {L : Nat} {xs : Nat → Int32} {C C0 : co_T} {t : ab_H} {d sl b p k m n F D g kd i : Nat} {S : st_T} {N O : rw_F} {r : ro_T} {σ : es_T} {i0 ph nx : Int32} {P : Option Value → ab_H → Nat → Prop} {X : Nat → ab_H → Nat → Prop} {rs : rs_T} {wd : Nat → Nat}
set_option maxRecDepth 100000 in
theorem TA_r : TA C C b k k (6 * (40 * b + k)) := ⟨fun _ _ _ => rfl, fun j => by rw [if_neg (by omega)], fun _ _ _ => rfl, fun j => by rw [if_neg (by omega)], rfl⟩
set_option maxRecDepth 100000 in
theorem TA_i (h : TA C0 C b k i (6 * (40 * b + i))) (hk : k ≤ i) : TA C0 (sI C 115 (40 * b + i) (C0.1 115 (40 * b + i + 1))) b k (i + 1) (6 * (40 * b + i)) := by
  obtain ⟨h1, h2, h3, h4, h5⟩ := h
  refine ⟨fun kk j hk => by rw [sI_1, if_neg (by omega)]; exact h1 kk j hk, fun j => ?_, h3, h4, h5⟩
  rw [sI_1]
  by_cases e : j = 40 * b + i
  · rw [if_pos ⟨rfl, e⟩, if_pos (by omega), e]
  · rw [if_neg (by omega), h2]
    by_cases e2 : 40 * b + k ≤ j ∧ j < 40 * b + i
    · rw [if_pos e2, if_pos (by omega)]
    · rw [if_neg e2, if_neg (by omega)]
set_option maxRecDepth 100000 in
theorem TA_j {q : Nat} (h : TA C0 C b k i q) (hq : 6 * (40 * b + k) ≤ q) : TA C0 (sJ C 116 q (C0.2.1 116 (q + 6))) b k i (q + 1) := by
  obtain ⟨h1, h2, h3, h4, h5⟩ := h
  refine ⟨h1, h2, fun kk j hk => by rw [sJ_2, if_neg (by omega)]; exact h3 kk j hk, fun j => ?_, h5⟩
  rw [sJ_2]
  by_cases e : j = q
  · rw [if_pos ⟨rfl, e⟩, if_pos (by omega), e]
  · rw [if_neg (by omega), h4]
    by_cases e2 : 6 * (40 * b + k) ≤ j ∧ j < q
    · rw [if_pos e2, if_pos (by omega)]
    · rw [if_neg e2, if_neg (by omega)]
set_option maxRecDepth 100000 in
theorem TA_Q {f q : Nat} (h : TA C0 C b k i q) : frQ f C0 C := ⟨fun kk j a _ _ _ => h.1 kk j (by omega), fun kk j a _ _ => h.2.2.1 kk j (by omega), h.2.2.2.2⟩
set_option maxRecDepth 100000 in
theorem WV_r : WV C C b k F 0 := ⟨fun _ _ => rfl, fun _ _ _ => rfl, fun j => by rw [if_neg (by omega)], rfl⟩
set_option maxRecDepth 100000 in
theorem WV_j {c : Nat} (h : WV C0 C b k F c) : WV C0 (sJ C 116 (6 * (40 * b + k) + c) (C0.2.1 136 (6 * F + c))) b k F (c + 1) := by
  obtain ⟨h1, h2, h3, h4⟩ := h
  refine ⟨h1, fun kk j hk => by rw [sJ_2, if_neg (by omega)]; exact h2 kk j hk, fun j => ?_, h4⟩
  rw [sJ_2]
  by_cases e : j = 6 * (40 * b + k) + c
  · rw [if_pos ⟨rfl, e⟩, if_pos (by omega), show j - 6 * (40 * b + k) = c by omega]
  · rw [if_neg (by omega), h3]
    by_cases e2 : 6 * (40 * b + k) ≤ j ∧ j < 6 * (40 * b + k) + c
    · rw [if_pos e2, if_pos (by omega)]
    · rw [if_neg e2, if_neg (by omega)]
set_option maxRecDepth 100000 in
theorem WV_Q {f c : Nat} (h : WV C0 C b k F c) : frQ f C0 C := ⟨fun kk j _ _ _ _ => h.1 kk j, fun kk j a _ _ => h.2.1 kk j (by omega), h.2.2.2⟩
set_option maxRecDepth 100000 in
theorem lp_268i (hb : b < 6) (hki : k ≤ i) (hi : i + 1 < 40) (H : ∀ C', TA C0 C' b k (i + 1) (6 * (40 * b + (i + 1))) → Wd L xs d y_268 (98, [(3, .int (nI (i))), (0, .ref 176), (1, .int (nI (b))), (2, .int (nI (k)))], [], MH C' t, sl) P X) : ∀ (m c : Nat) (C : co_T), c + m = 6 → TA C0 C b k (i + 1) (6 * (40 * b + i) + c) → Wd L xs d y_268 (49, [(4, .int (nI (c))), (3, .int (nI (i))), (0, .ref 176), (1, .int (nI (b))), (2, .int (nI (k)))], [], MH C t, sl) P X
  | 0, c, C, hc, hT => by
    obtain rfl : c = 6 := by omega
    refine w_p (pc1 := 51) rfl rfl ?_
    refine w_p (pc1 := 53) (st1 := .int 6 :: _) rfl rfl ?_
    refine w_t (a := 98) (b := 56) (bN_ge_t (a := 6) (b := 6) (by omega) (by omega) (by omega)) rfl rfl ?_
    refine Wd_al (al := [(3, .int (nI (i))), (0, .ref 176), (1, .int (nI (b))), (2, .int (nI (k)))]) (sba_p [1, 2, 3, 4] rfl rfl) ?_
    refine H C ?_
    rw [show 6 * (40 * b + (i + 1)) = 6 * (40 * b + i) + 6 by omega]
    exact hT
  | m + 1, c, C, hc, hT => by
    have hv : C.2.1 116 (6 * (40 * b + i + 1) + c) = C0.2.1 116 (6 * (40 * b + i) + c + 6) := by rw [hT.2.2.2.1, if_neg (by omega), show 6 * (40 * b + i + 1) + c = 6 * (40 * b + i) + c + 6 by omega]
    refine w_p (pc1 := 51) rfl rfl ?_
    refine w_p (pc1 := 53) (st1 := .int 6 :: _) rfl rfl ?_
    refine w_f (a := 98) (b := 56) (bN_ge_f (a := c) (b := 6) (by omega) (by omega) (by omega)) rfl rfl ?_
    refine w_p (pc1 := 57) rfl rfl ?_
    refine w_m0 (pc1 := 60) rfl rfl (h_gC rfl rfl rfl rfl) rfl ?_
    refine w_p (pc1 := 62) (st1 := .int 6 :: _) rfl rfl ?_
    refine w_p (pc1 := 64) (st1 := .int 40 :: _) rfl rfl ?_
    refine w_p (pc1 := 65) rfl rfl ?_
    refine w_imul (pc1 := 66) (u := nI (40)) (v := nI (b)) (z := nI (40 * b)) rfl (nK_mul) rfl ?_
    refine w_p (pc1 := 67) rfl rfl ?_
    refine w_iadd (pc1 := 68) (u := nI (40 * b)) (v := nI (i)) (z := nI (40 * b + i)) rfl (nK_add) rfl ?_
    refine w_imul (pc1 := 69) (u := nI (6)) (v := nI (40 * b + i)) (z := nI (6 * (40 * b + i))) rfl (nK_mul) rfl ?_
    refine w_p (pc1 := 71) rfl rfl ?_
    refine w_iadd (pc1 := 72) (u := nI (6 * (40 * b + i))) (v := nI (c)) (z := nI (6 * (40 * b + i) + c)) rfl (nK_add) rfl ?_
    refine w_p (pc1 := 73) rfl rfl ?_
    refine w_m0 (pc1 := 76) rfl rfl (h_gC rfl rfl rfl rfl) rfl ?_
    refine w_p (pc1 := 78) (st1 := .int 6 :: _) rfl rfl ?_
    refine w_p (pc1 := 80) (st1 := .int 40 :: _) rfl rfl ?_
    refine w_p (pc1 := 81) rfl rfl ?_
    refine w_imul (pc1 := 82) (u := nI (40)) (v := nI (b)) (z := nI (40 * b)) rfl (nK_mul) rfl ?_
    refine w_p (pc1 := 83) rfl rfl ?_
    refine w_iadd (pc1 := 84) (u := nI (40 * b)) (v := nI (i)) (z := nI (40 * b + i)) rfl (nK_add) rfl ?_
    refine w_p (pc1 := 85) (st1 := .int 1 :: _) rfl rfl ?_
    refine w_iadd (pc1 := 86) (u := nI (40 * b + i)) (v := nI (1)) (z := nI (40 * b + i + 1)) rfl (nK_add) rfl ?_
    refine w_imul (pc1 := 87) (u := nI (6)) (v := nI (40 * b + i + 1)) (z := nI (6 * (40 * b + i + 1))) rfl (nK_mul) rfl ?_
    refine w_p (pc1 := 89) rfl rfl ?_
    refine w_iadd (pc1 := 90) (u := nI (6 * (40 * b + i + 1))) (v := nI (c)) (z := nI (6 * (40 * b + i + 1) + c)) rfl (nK_add) rfl ?_
    refine w_m0 (pc1 := 91) (st1 := .long (C0.2.1 116 (6 * (40 * b + i) + c + 6)) :: _) rfl rfl (n_lle (e := 6 * (40 * b + i + 1) + c) rfl rfl rfl (by omega) (hv)) rfl ?_
    refine w_m0 (pc1 := 92) rfl rfl (n_ls (e := 6 * (40 * b + i) + c) rfl rfl rfl (by omega)) rfl ?_
    refine w_iinc (pc1 := 95) (u := nI (c)) (z := nI (c + 1)) (al1 := [(4, .int (nI (c + 1))), (3, .int (nI (i))), (0, .ref 176), (1, .int (nI (b))), (2, .int (nI (k)))]) rfl rfl rfl nK_1 rfl rfl ?_
    refine w_p (pc1 := 49) rfl rfl ?_
    exact lp_268i hb hki hi H m (c + 1) _ (by omega) (TA_j hT (by omega))
set_option maxRecDepth 100000 in
theorem lp_268 (hb : b < 6) (hn : C0.1 117 b = nI n) (hn4 : n < 40) : ∀ (m i : Nat) (C : co_T), i + m = n → k ≤ i → TA C0 C b k i (6 * (40 * b + i)) → Wd L xs d y_268 (12, [(3, .int (nI (i))), (0, .ref 176), (1, .int (nI (b))), (2, .int (nI (k)))], [], MH C t, sl) (fun v h q => none = v ∧ (∃ C', TA C0 C' b k n (6 * (40 * b + n)) ∧ MH C' t = h) ∧ sl = q) nX
  | 0, i, C, hi, hk, hT => by
    obtain rfl : i = n := by omega
    have h7 : C.1 117 b = nI i := (hT.1 117 b (by decide)).trans hn
    refine w_p (pc1 := 13) rfl rfl ?_
    refine w_p (pc1 := 14) rfl rfl ?_
    refine w_m0 (pc1 := 17) rfl rfl (h_gC rfl rfl rfl rfl) rfl ?_
    refine w_p (pc1 := 18) rfl rfl ?_
    refine w_m0 (pc1 := 19) (st1 := .int (nI (i)) :: _) rfl rfl (n_ile (e := b) rfl rfl rfl (by omega) (h7)) rfl ?_
    refine w_t (a := 104) (b := 22) (bN_ge_t (a := i) (b := i) (by omega) (by omega) (by omega)) rfl rfl ?_
    refine w_r rfl rfl rfl (fun _ _ => rfl) rfl ?_
    exact ⟨rfl, ⟨C, hT, rfl⟩, rfl⟩
  | m + 1, i, C, hi, hk, hT => by
    have h7 : C.1 117 b = nI n := (hT.1 117 b (by decide)).trans hn
    have hv : C.1 115 (40 * b + i + 1) = C0.1 115 (40 * b + i + 1) := by rw [hT.2.1, if_neg (by omega)]
    refine w_p (pc1 := 13) rfl rfl ?_
    refine w_p (pc1 := 14) rfl rfl ?_
    refine w_m0 (pc1 := 17) rfl rfl (h_gC rfl rfl rfl rfl) rfl ?_
    refine w_p (pc1 := 18) rfl rfl ?_
    refine w_m0 (pc1 := 19) (st1 := .int (nI (n)) :: _) rfl rfl (n_ile (e := b) rfl rfl rfl (by omega) (h7)) rfl ?_
    refine w_f (a := 104) (b := 22) (bN_ge_f (a := i) (b := n) (by omega) (by omega) (by omega)) rfl rfl ?_
    refine w_p (pc1 := 23) rfl rfl ?_
    refine w_m0 (pc1 := 26) rfl rfl (h_gC rfl rfl rfl rfl) rfl ?_
    refine w_p (pc1 := 28) (st1 := .int 40 :: _) rfl rfl ?_
    refine w_p (pc1 := 29) rfl rfl ?_
    refine w_imul (pc1 := 30) (u := nI (40)) (v := nI (b)) (z := nI (40 * b)) rfl (nK_mul) rfl ?_
    refine w_p (pc1 := 31) rfl rfl ?_
    refine w_iadd (pc1 := 32) (u := nI (40 * b)) (v := nI (i)) (z := nI (40 * b + i)) rfl (nK_add) rfl ?_
    refine w_p (pc1 := 33) rfl rfl ?_
    refine w_m0 (pc1 := 36) rfl rfl (h_gC rfl rfl rfl rfl) rfl ?_
    refine w_p (pc1 := 38) (st1 := .int 40 :: _) rfl rfl ?_
    refine w_p (pc1 := 39) rfl rfl ?_
    refine w_imul (pc1 := 40) (u := nI (40)) (v := nI (b)) (z := nI (40 * b)) rfl (nK_mul) rfl ?_
    refine w_p (pc1 := 41) rfl rfl ?_
    refine w_iadd (pc1 := 42) (u := nI (40 * b)) (v := nI (i)) (z := nI (40 * b + i)) rfl (nK_add) rfl ?_
    refine w_p (pc1 := 43) (st1 := .int 1 :: _) rfl rfl ?_
    refine w_iadd (pc1 := 44) (u := nI (40 * b + i)) (v := nI (1)) (z := nI (40 * b + i + 1)) rfl (nK_add) rfl ?_
    refine w_m0 (pc1 := 45) (st1 := .int (C0.1 115 (40 * b + i + 1)) :: _) rfl rfl (n_ile (e := 40 * b + i + 1) rfl rfl rfl (by omega) (hv)) rfl ?_
    refine w_m0 (pc1 := 46) rfl rfl (n_is (e := 40 * b + i) rfl rfl rfl (by omega)) rfl ?_
    refine w_p (pc1 := 47) (st1 := .int 0 :: _) rfl rfl ?_
    refine w_p (pc1 := 49) (al1 := [(4, .int 0), (3, .int (nI (i))), (0, .ref 176), (1, .int (nI (b))), (2, .int (nI (k)))]) rfl rfl ?_
    refine lp_268i (C0 := C0) hb hk (by omega) (fun C1 h1 => ?_) 6 0 _ rfl (TA_i hT hk)
    refine w_iinc (pc1 := 101) (u := nI (i)) (z := nI (i + 1)) (al1 := [(3, .int (nI (i + 1))), (0, .ref 176), (1, .int (nI (b))), (2, .int (nI (k)))]) rfl rfl rfl nK_1 rfl rfl ?_
    refine w_p (pc1 := 12) rfl rfl ?_
    exact lp_268 hb hn hn4 m (i + 1) C1 (by omega) (by omega) h1
set_option maxRecDepth 100000 in
theorem m_268 (hb : b < 6) (hn : C.1 117 b = nI n) (hk : k < n) (hn4 : n ≤ 40) : Wd L xs d y_268 (0, [(0, .ref 176), (1, .int (nI (b))), (2, .int (nI (k)))], [], MH C t, sl) (fun v h q => none = v ∧ (∃ C', TA (sI C 117 b (nI (n - 1))) C' b k (n - 1) (6 * (40 * b + (n - 1))) ∧ MH C' t = h) ∧ sl = q) nX := by
  refine w_p (pc1 := 1) rfl rfl ?_
  refine w_m0 (pc1 := 4) rfl rfl (h_gC rfl rfl rfl rfl) rfl ?_
  refine w_p (pc1 := 5) rfl rfl ?_
  refine w_p (pc1 := 6) rfl rfl ?_
  refine w_m0 (pc1 := 7) (st1 := .int (nI (n)) :: _) rfl rfl (n_ile (e := b) rfl rfl rfl (by omega) (hn)) rfl ?_
  refine w_p (pc1 := 8) (st1 := .int 1 :: _) rfl rfl ?_
  refine w_isub (pc1 := 9) (u := nI (n)) (v := nI (1)) (z := nI (n - 1)) rfl (nK_sub (by omega)) rfl ?_
  refine w_m0 (pc1 := 10) rfl rfl (n_is (e := b) rfl rfl rfl (by omega)) rfl ?_
  refine w_p (pc1 := 11) rfl rfl ?_
  refine w_p (pc1 := 12) (al1 := [(3, .int (nI (k))), (0, .ref 176), (1, .int (nI (b))), (2, .int (nI (k)))]) rfl rfl ?_
  exact lp_268 (n := n - 1) hb (by rw [sI_1, if_pos ⟨rfl, rfl⟩]) (by omega) (n - 1 - k) k _ (by omega) (Nat.le_refl _) TA_r
set_option maxRecDepth 100000 in
theorem TA_W (W : RWM C wd rs) (hb : b < 6) (hr : k < (rs b).1.length) (h : TA (sI C 117 b (nI ((rs b).1.length - 1))) C0 b k ((rs b).1.length - 1) (6 * (40 * b + ((rs b).1.length - 1)))) : RWM C0 wd (rsD rs b k) := by
  obtain ⟨g1, g2, g3, g4⟩ := W b hb
  obtain ⟨h1, h2, h3, h4, h5⟩ := h
  have es : ∀ j, C0.1 117 j = if j = b then nI ((rs b).1.length - 1) else C.1 117 j := by
    intro j
    rw [h1 117 j (by decide), sI_1]
    by_cases e : j = b
    · rw [if_pos ⟨rfl, e⟩, if_pos e]
    · rw [if_neg (by omega), if_neg e]
  have ei : ∀ j, C0.1 115 j = if 40 * b + k ≤ j ∧ j < 40 * b + ((rs b).1.length - 1) then C.1 115 (j + 1) else C.1 115 j := by
    intro j
    have q : ∀ x, (sI C 117 b (nI ((rs b).1.length - 1))).1 115 x = C.1 115 x := fun x => by rw [sI_1, if_neg (by omega)]
    rw [h2, q, q]
  have hl : ((rs b).1.eraseIdx k).length = (rs b).1.length - 1 := List.length_eraseIdx_of_lt hr
  refine RWf_u (sz' := C0.1 117) (id' := C0.1 115) (ce' := C0.2.1 116) W (fun j hj => ?_) (fun j hj => ?_) (fun j hj => ?_) ?_ ?_ (fun j q hq => ?_)
  · rw [h4, if_neg (by omega)]
    rfl
  · rw [ei, if_neg (by omega)]
  · rw [es, if_neg hj]
  · rw [es, if_pos rfl, hl]
  · rw [hl]
    omega
  · have hq : ((rs b).1.eraseIdx k)[j]? = some q := hq
    have hjl := get_lt hq
    rw [hl] at hjl
    rw [List.getElem?_eraseIdx] at hq
    split at hq
    · refine ⟨?_, fun c hc => ?_⟩
      · rw [ei, if_neg (by omega)]
        exact (g4 j q hq).1
      · rw [h4, if_neg (by omega)]
        exact (g4 j q hq).2 c hc
    · refine ⟨?_, fun c hc => ?_⟩
      · rw [ei, if_pos (by omega), show b * 40 + j + 1 = b * 40 + (j + 1) by omega]
        exact (g4 (j + 1) q hq).1
      · rw [h4, if_pos (by omega), show (b * 40 + j) * 6 + c + 6 = (b * 40 + (j + 1)) * 6 + c by omega]
        exact (g4 (j + 1) q hq).2 c hc
set_option maxRecDepth 100000 in
theorem WV_W {f : rw_F} (W : RWM C wd rs) (hb : b < 6) (hr : (rs b).1[k]? = some r) (hf : bfM C 136 F (wd b) f) (h : WV C C0 b k F 6) : RWM C0 wd (rsW rs b k (r.1, f)) := by
  obtain ⟨g1, g2, g3, g4⟩ := W b hb
  have hkl := get_lt hr
  refine RWf_u (sz' := C0.1 117) (id' := C0.1 115) (ce' := C0.2.1 116) W (fun j hj => ?_) (fun j _ => h.1 115 j) (fun j _ => h.1 117 j) ?_ ?_ (fun j q hq => ?_)
  · rw [h.2.2.1, if_neg (by omega)]
  · rw [List.length_set, h.1 117 b]
    exact g2
  · rw [List.length_set]
    exact g3
  · rw [h.1 115]
    by_cases e : k = j
    · subst e
      have hq : ((rs b).1.set k (r.1, f))[k]? = some q := hq
      rw [List.getElem?_set_self hkl] at hq
      cases hq
      refine ⟨(g4 k r hr).1, fun c hc => ?_⟩
      rw [h.2.2.1, if_pos (by omega), show (b * 40 + k) * 6 + c - 6 * (40 * b + k) = c by omega]
      exact hf c hc
    · have hq : ((rs b).1.set k (r.1, f))[j]? = some q := hq
      rw [List.getElem?_set_ne e] at hq
      refine ⟨(g4 j q hq).1, fun c hc => ?_⟩
      rw [h.2.2.1, if_neg (by omega)]
      exact (g4 j q hq).2 c hc
set_option maxRecDepth 100000 in
theorem WV_A {f : rw_F} {z : Int32} {C1 : co_T} (W : RWM C wd rs) (hb : b < 6) (hl : (rs b).1.length < 40) (hf : bfM C 136 F (wd b) f) (hz : z = (rs b).2 + 1) (e1 : ∀ j, C1.1 115 j = if j = 40 * b + (rs b).1.length then z else C.1 115 j) (e2 : ∀ j, C1.1 117 j = if j = b then nI ((rs b).1.length + 1) else C.1 117 j) (e3 : C1.2 = C.2) (h : WV C1 C0 b (rs b).1.length F 6) : RWM C0 wd (rsA rs b f) := by
  obtain ⟨g1, g2, g3, g4⟩ := W b hb
  refine RWf_u (sz' := C0.1 117) (id' := C0.1 115) (ce' := C0.2.1 116) W (fun j hj => ?_) (fun j hj => ?_) (fun j hj => ?_) ?_ ?_ (fun j q hq => ?_)
  · rw [h.2.2.1, if_neg (by omega), e3]
  · rw [h.1 115, e1, if_neg (by omega)]
  · rw [h.1 117, e2, if_neg hj]
  · rw [h.1 117, e2, if_pos rfl, len_s]
  · rw [len_s]
    omega
  · have hq : ((rs b).1 ++ [((rs b).2 + 1, f)])[j]? = some q := hq
    have hj := get_lt hq
    rw [len_s] at hj
    by_cases e : j < (rs b).1.length
    · rw [List.getElem?_append_left e] at hq
      refine ⟨?_, fun c hc => ?_⟩
      · rw [h.1 115, e1, if_neg (by omega)]
        exact (g4 j q hq).1
      · rw [h.2.2.1, if_neg (by omega), e3]
        exact (g4 j q hq).2 c hc
    · obtain rfl : j = (rs b).1.length := by omega
      rw [List.getElem?_append_right (Nat.le_refl _), Nat.sub_self] at hq
      cases hq
      refine ⟨?_, fun c hc => ?_⟩
      · rw [h.1 115, e1, if_pos (by omega), hz]
      · rw [h.2.2.1, if_pos (by omega), show (b * 40 + (rs b).1.length) * 6 + c - 6 * (40 * b + (rs b).1.length) = c by omega, e3]
        exact hf c hc
set_option maxRecDepth 100000 in
theorem rsA_2 {f : rw_F} (q : Nat) : (rsA rs b f q).2 = if q = b then (rs b).2 + 1 else (rs q).2 := by
  unfold rsA rsU
  by_cases e : q = b
  · rw [if_pos e, if_pos e]
  · rw [if_neg e, if_neg e]
set_option maxRecDepth 100000 in
theorem lp_267a (hb : b < 6) (hk : k < 40) (hF : F < 40) (H : ∀ C', WV C0 C' b k F 6 → Wd L xs d y_267 (142, [(3, .int (nI (k))), (2, .int (nI (b))), (0, .ref 176), (1, .int (nI (F)))], [], MH C' t, sl) P X) : ∀ (m c : Nat) (C : co_T), c + m = 6 → WV C0 C b k F c → Wd L xs d y_267 (100, [(4, .int (nI (c))), (3, .int (nI (k))), (2, .int (nI (b))), (0, .ref 176), (1, .int (nI (F)))], [], MH C t, sl) P X
  | 0, c, C, hc, hT => by
    obtain rfl : c = 6 := by omega
    refine w_p (pc1 := 102) rfl rfl ?_
    refine w_p (pc1 := 104) (st1 := .int 6 :: _) rfl rfl ?_
    refine w_t (a := 142) (b := 107) (bN_ge_t (a := 6) (b := 6) (by omega) (by omega) (by omega)) rfl rfl ?_
    refine Wd_al (al := [(3, .int (nI (k))), (2, .int (nI (b))), (0, .ref 176), (1, .int (nI (F)))]) (sba_p [1, 2, 3, 4] rfl rfl) ?_
    exact H C hT
  | m + 1, c, C, hc, hT => by
    have hv : C.2.1 136 (6 * F + c) = C0.2.1 136 (6 * F + c) := hT.2.1 136 _ (by decide)
    refine w_p (pc1 := 102) rfl rfl ?_
    refine w_p (pc1 := 104) (st1 := .int 6 :: _) rfl rfl ?_
    refine w_f (a := 142) (b := 107) (bN_ge_f (a := c) (b := 6) (by omega) (by omega) (by omega)) rfl rfl ?_
    refine w_p (pc1 := 108) rfl rfl ?_
    refine w_m0 (pc1 := 111) rfl rfl (h_gC rfl rfl rfl rfl) rfl ?_
    refine w_p (pc1 := 113) (st1 := .int 6 :: _) rfl rfl ?_
    refine w_p (pc1 := 115) (st1 := .int 40 :: _) rfl rfl ?_
    refine w_p (pc1 := 116) rfl rfl ?_
    refine w_imul (pc1 := 117) (u := nI (40)) (v := nI (b)) (z := nI (40 * b)) rfl (nK_mul) rfl ?_
    refine w_p (pc1 := 118) rfl rfl ?_
    refine w_iadd (pc1 := 119) (u := nI (40 * b)) (v := nI (k)) (z := nI (40 * b + k)) rfl (nK_add) rfl ?_
    refine w_imul (pc1 := 120) (u := nI (6)) (v := nI (40 * b + k)) (z := nI (6 * (40 * b + k))) rfl (nK_mul) rfl ?_
    refine w_p (pc1 := 122) rfl rfl ?_
    refine w_iadd (pc1 := 123) (u := nI (6 * (40 * b + k))) (v := nI (c)) (z := nI (6 * (40 * b + k) + c)) rfl (nK_add) rfl ?_
    refine w_p (pc1 := 124) rfl rfl ?_
    refine w_m0 (pc1 := 127) rfl rfl (h_gC rfl rfl rfl rfl) rfl ?_
    refine w_p (pc1 := 129) (st1 := .int 6 :: _) rfl rfl ?_
    refine w_p (pc1 := 130) rfl rfl ?_
    refine w_imul (pc1 := 131) (u := nI (6)) (v := nI (F)) (z := nI (6 * F)) rfl (nK_mul) rfl ?_
    refine w_p (pc1 := 133) rfl rfl ?_
    refine w_iadd (pc1 := 134) (u := nI (6 * F)) (v := nI (c)) (z := nI (6 * F + c)) rfl (nK_add) rfl ?_
    refine w_m0 (pc1 := 135) (st1 := .long (C0.2.1 136 (6 * F + c)) :: _) rfl rfl (n_lle (e := 6 * F + c) rfl rfl rfl (by omega) (hv)) rfl ?_
    refine w_m0 (pc1 := 136) rfl rfl (n_ls (e := 6 * (40 * b + k) + c) rfl rfl rfl (by omega)) rfl ?_
    refine w_iinc (pc1 := 139) (u := nI (c)) (z := nI (c + 1)) (al1 := [(4, .int (nI (c + 1))), (3, .int (nI (k))), (2, .int (nI (b))), (0, .ref 176), (1, .int (nI (F)))]) rfl rfl rfl nK_1 rfl rfl ?_
    refine w_p (pc1 := 100) rfl rfl ?_
    exact lp_267a hb hk hF H m (c + 1) _ (by omega) (WV_j hT)
set_option maxRecDepth 100000 in
theorem lp_267b (hb : b < 6) (hk : k < 40) (hF : F < 40) (H : ∀ C', WV C0 C' b k F 6 → Wd L xs d y_267 (243, [(3, .int (nI (k))), (2, .int (nI (b))), (0, .ref 176), (1, .int (nI (F)))], [], MH C' t, sl) P X) : ∀ (m c : Nat) (C : co_T), c + m = 6 → WV C0 C b k F c → Wd L xs d y_267 (201, [(4, .int (nI (c))), (3, .int (nI (k))), (2, .int (nI (b))), (0, .ref 176), (1, .int (nI (F)))], [], MH C t, sl) P X
  | 0, c, C, hc, hT => by
    obtain rfl : c = 6 := by omega
    refine w_p (pc1 := 203) rfl rfl ?_
    refine w_p (pc1 := 205) (st1 := .int 6 :: _) rfl rfl ?_
    refine w_t (a := 243) (b := 208) (bN_ge_t (a := 6) (b := 6) (by omega) (by omega) (by omega)) rfl rfl ?_
    refine Wd_al (al := [(3, .int (nI (k))), (2, .int (nI (b))), (0, .ref 176), (1, .int (nI (F)))]) (sba_p [1, 2, 3, 4] rfl rfl) ?_
    exact H C hT
  | m + 1, c, C, hc, hT => by
    have hv : C.2.1 136 (6 * F + c) = C0.2.1 136 (6 * F + c) := hT.2.1 136 _ (by decide)
    refine w_p (pc1 := 203) rfl rfl ?_
    refine w_p (pc1 := 205) (st1 := .int 6 :: _) rfl rfl ?_
    refine w_f (a := 243) (b := 208) (bN_ge_f (a := c) (b := 6) (by omega) (by omega) (by omega)) rfl rfl ?_
    refine w_p (pc1 := 209) rfl rfl ?_
    refine w_m0 (pc1 := 212) rfl rfl (h_gC rfl rfl rfl rfl) rfl ?_
    refine w_p (pc1 := 214) (st1 := .int 6 :: _) rfl rfl ?_
    refine w_p (pc1 := 216) (st1 := .int 40 :: _) rfl rfl ?_
    refine w_p (pc1 := 217) rfl rfl ?_
    refine w_imul (pc1 := 218) (u := nI (40)) (v := nI (b)) (z := nI (40 * b)) rfl (nK_mul) rfl ?_
    refine w_p (pc1 := 219) rfl rfl ?_
    refine w_iadd (pc1 := 220) (u := nI (40 * b)) (v := nI (k)) (z := nI (40 * b + k)) rfl (nK_add) rfl ?_
    refine w_imul (pc1 := 221) (u := nI (6)) (v := nI (40 * b + k)) (z := nI (6 * (40 * b + k))) rfl (nK_mul) rfl ?_
    refine w_p (pc1 := 223) rfl rfl ?_
    refine w_iadd (pc1 := 224) (u := nI (6 * (40 * b + k))) (v := nI (c)) (z := nI (6 * (40 * b + k) + c)) rfl (nK_add) rfl ?_
    refine w_p (pc1 := 225) rfl rfl ?_
    refine w_m0 (pc1 := 228) rfl rfl (h_gC rfl rfl rfl rfl) rfl ?_
    refine w_p (pc1 := 230) (st1 := .int 6 :: _) rfl rfl ?_
    refine w_p (pc1 := 231) rfl rfl ?_
    refine w_imul (pc1 := 232) (u := nI (6)) (v := nI (F)) (z := nI (6 * F)) rfl (nK_mul) rfl ?_
    refine w_p (pc1 := 234) rfl rfl ?_
    refine w_iadd (pc1 := 235) (u := nI (6 * F)) (v := nI (c)) (z := nI (6 * F + c)) rfl (nK_add) rfl ?_
    refine w_m0 (pc1 := 236) (st1 := .long (C0.2.1 136 (6 * F + c)) :: _) rfl rfl (n_lle (e := 6 * F + c) rfl rfl rfl (by omega) (hv)) rfl ?_
    refine w_m0 (pc1 := 237) rfl rfl (n_ls (e := 6 * (40 * b + k) + c) rfl rfl rfl (by omega)) rfl ?_
    refine w_iinc (pc1 := 240) (u := nI (c)) (z := nI (c + 1)) (al1 := [(4, .int (nI (c + 1))), (3, .int (nI (k))), (2, .int (nI (b))), (0, .ref 176), (1, .int (nI (F)))]) rfl rfl rfl nK_1 rfl rfl ?_
    refine w_p (pc1 := 201) rfl rfl ?_
    exact lp_267b hb hk hF H m (c + 1) _ (by omega) (WV_j hT)
set_option maxRecDepth 100000 in
theorem m_267_0f (hF : F < 39) (hb : b < 6) (ho : okSt S) (B : TB S σ D F b 0 i0 ph nx N O C) (hl : 40 ≤ (σ.1 b).1.length) : Wd L xs (d + 6) y_267 (0, [(0, .ref 176), (1, .int (nI (F)))], [], MH C t, 0) (QR t (fun C' => EDD C C' F 6)) nX := by
  have hs := B.2.2.1
  have hD := B.2.1.2.2.2.1.2
  have hw := w3k6 (kd := 0) ho hb
  obtain ⟨g1, g2, g3, g4⟩ := B.2.1.1 b hb
  have B1 := TB_n (v := 0) B
  have q1 : frQ F C (sI C 132 F 0) := frQ_I (by omega)
  obtain hl4 : (σ.1 b).1.length = 40 := by omega
  rw [hl4] at g2
  have g2' : (sI C 132 F 0).1 117 b = 40 := by rw [sI_1, if_neg (by omega)]; exact g2
  have k1 : (sI C 132 F 0).1 128 F = 0 := B1.2.2.1.2.1
  refine w_p (pc1 := 1) rfl rfl ?_
  refine w_m0 (pc1 := 4) rfl rfl (h_gC rfl rfl rfl rfl) rfl ?_
  refine w_p (pc1 := 5) rfl rfl ?_
  refine w_m0 (pc1 := 6) (st1 := .int (nI (b)) :: _) rfl rfl (n_ile (e := F) rfl rfl rfl (by omega) (hs.2.2.1)) rfl ?_
  refine w_p (pc1 := 7) (al1 := [(2, .int (nI (b))), (0, .ref 176), (1, .int (nI (F)))]) rfl rfl ?_
  refine w_p (pc1 := 8) rfl rfl ?_
  refine w_m0 (pc1 := 11) rfl rfl (h_gC rfl rfl rfl rfl) rfl ?_
  refine w_p (pc1 := 12) rfl rfl ?_
  refine w_p (pc1 := 13) (st1 := .int 0 :: _) rfl rfl ?_
  refine w_m0 (pc1 := 14) rfl rfl (n_is (e := F) rfl rfl rfl (by omega)) rfl ?_
  refine w_p (pc1 := 15) rfl rfl ?_
  refine w_m0 (pc1 := 18) rfl rfl (h_gC rfl rfl rfl rfl) rfl ?_
  refine w_p (pc1 := 19) rfl rfl ?_
  refine w_m0 (pc1 := 20) (st1 := .int 0 :: _) rfl rfl (n_ile (e := F) rfl rfl rfl (by omega) (k1)) rfl ?_
  refine w_f (a := 150) (b := 23) rfl rfl rfl ?_
  refine w_p (pc1 := 24) rfl rfl ?_
  refine w_m0 (pc1 := 27) rfl rfl (h_gC rfl rfl rfl rfl) rfl ?_
  refine w_p (pc1 := 28) rfl rfl ?_
  refine w_m0 (pc1 := 29) (st1 := .int 40 :: _) rfl rfl (n_ile (e := b) rfl rfl rfl (by omega) (g2')) rfl ?_
  refine w_p (pc1 := 31) (st1 := .int 40 :: _) rfl rfl ?_
  refine w_f (a := 41) (b := 34) rfl rfl rfl ?_
  refine w_p (pc1 := 35) rfl rfl ?_
  refine w_p (pc1 := 37) (st1 := .int 6 :: _) rfl rfl ?_
  refine w_je (pc1 := 40) (vs := [.ref 176, .int 6]) (rest := []) (st1 := []) (m_256 (d := d + 5) (sl := 0) B1.2.1.2.2.2.2.2.1) rfl rfl rfl (fun _ _ => rfl) rfl (by exact cl_v my_256 rfl rfl rfl (Nat.le_of_ble_eq_true rfl) rfl (MH_obj rfl rfl) rfl (by decide) rfl rfl) (by rfl) (Nat.le_of_ble_eq_true rfl) (Nat.le_of_ble_eq_true rfl) rfl (by rfl) ?_
  refine w_r rfl rfl rfl (fun _ _ => rfl) rfl ?_
  exact ⟨rfl, ⟨sI (sI C 132 F 0) 76 89 6, ⟨rfl, ⟨rfl, rfl, false, B.2.1.2.2.2.2.2.2⟩, frQ_t q1 (frQ_I (by omega)), frV_t (frV_I (by omega)) (frV_I (by omega))⟩, rfl⟩, rfl⟩
set_option maxRecDepth 100000 in
theorem m_267_0 (hF : F < 39) (hb : b < 6) (ho : okSt S) (B : TB S σ D F b 0 i0 ph nx N O C) (hl : (σ.1 b).1.length < 40) : Wd L xs (d + 6) y_267 (0, [(0, .ref 176), (1, .int (nI (F)))], [], MH C t, 0) (QR t (fun C' => TB S (rsA σ.1 b N, σ.2) D F b 0 ((σ.1 b).2 + 1) 4 0 N O C' ∧ frQ F C C')) nX := by
  have hs := B.2.2.1
  have hD := B.2.1.2.2.2.1.2
  have hw := w3k6 (kd := 0) ho hb
  obtain ⟨g1, g2, g3, g4⟩ := B.2.1.1 b hb
  have B1 := TB_n (v := 0) B
  have q1 : frQ F C (sI C 132 F 0) := frQ_I (by omega)
  have hnx := B.2.1.2.1 b hb
  have g2' : (sI C 132 F 0).1 117 b = nI (σ.1 b).1.length := by rw [sI_1, if_neg (by omega)]; exact g2
  have k1 : (sI C 132 F 0).1 128 F = 0 := B1.2.2.1.2.1
  have x1 : (sI (sI C 132 F 0) 117 b (nI ((σ.1 b).1.length + 1))).1 118 b = (σ.1 b).2 + 1 := by rw [sI_1, if_neg (by omega), sI_1, if_neg (by omega)]; exact hnx
  have x2 : (sI (sI (sI C 132 F 0) 117 b (nI ((σ.1 b).1.length + 1))) 130 F ((σ.1 b).2 + 1)).1 118 b = (σ.1 b).2 + 1 := by rw [sI_1, if_neg (by omega)]; exact x1
  have x3 : (sI (sI (sI (sI C 132 F 0) 117 b (nI ((σ.1 b).1.length + 1))) 130 F ((σ.1 b).2 + 1)) 118 b ((σ.1 b).2 + 1 + 1)).1 130 F = (σ.1 b).2 + 1 := by rw [sI_1, if_neg (by omega), sI_1, if_pos ⟨rfl, rfl⟩]
  have HH : ∀ C6, WV (sI (sI (sI (sI (sI C 132 F 0) 117 b (nI ((σ.1 b).1.length + 1))) 130 F ((σ.1 b).2 + 1)) 118 b ((σ.1 b).2 + 1 + 1)) 115 (40 * b + (σ.1 b).1.length) ((σ.1 b).2 + 1)) C6 b (σ.1 b).1.length F 6 → TB S (rsA σ.1 b N, σ.2) D F b 0 ((σ.1 b).2 + 1) 4 0 N O (sI C6 131 F 4) ∧ frQ F C (sI C6 131 F 4) := by
    intro C6 h6
    have q5 : frQ F C (sI (sI (sI (sI (sI C 132 F 0) 117 b (nI ((σ.1 b).1.length + 1))) 130 F ((σ.1 b).2 + 1)) 118 b ((σ.1 b).2 + 1 + 1)) 115 (40 * b + (σ.1 b).1.length) ((σ.1 b).2 + 1)) := frQ_t q1 (frQ_t (frQ_I (by omega)) (frQ_t (frQ_I (by omega)) (frQ_t (frQ_I (by omega)) (frQ_I (by omega)))))
    have q6 : frQ F C C6 := frQ_t q5 (WV_Q h6)
    have eA : ∀ kk j, kk ≠ 132 → kk ≠ 117 → kk ≠ 130 → kk ≠ 118 → kk ≠ 115 → (sI (sI (sI (sI (sI C 132 F 0) 117 b (nI ((σ.1 b).1.length + 1))) 130 F ((σ.1 b).2 + 1)) 118 b ((σ.1 b).2 + 1 + 1)) 115 (40 * b + (σ.1 b).1.length) ((σ.1 b).2 + 1)).1 kk j = C.1 kk j := fun kk j a1 a2 a3 a4 a5 => by rw [sI_1, if_neg (by omega), sI_1, if_neg (by omega), sI_1, if_neg (by omega), sI_1, if_neg (by omega), sI_1, if_neg (by omega)]
    have e5 : ∀ j, (sI (sI (sI (sI (sI C 132 F 0) 117 b (nI ((σ.1 b).1.length + 1))) 130 F ((σ.1 b).2 + 1)) 118 b ((σ.1 b).2 + 1 + 1)) 115 (40 * b + (σ.1 b).1.length) ((σ.1 b).2 + 1)).1 115 j = if j = 40 * b + (σ.1 b).1.length then (σ.1 b).2 + 1 else C.1 115 j := by
      intro j
      rw [sI_1]
      by_cases e : j = 40 * b + (σ.1 b).1.length
      · rw [if_pos ⟨rfl, e⟩, if_pos e]
      · rw [if_neg (by omega), if_neg e, sI_1, if_neg (by omega), sI_1, if_neg (by omega), sI_1, if_neg (by omega), sI_1, if_neg (by omega)]
    have e7 : ∀ j, (sI (sI (sI (sI (sI C 132 F 0) 117 b (nI ((σ.1 b).1.length + 1))) 130 F ((σ.1 b).2 + 1)) 118 b ((σ.1 b).2 + 1 + 1)) 115 (40 * b + (σ.1 b).1.length) ((σ.1 b).2 + 1)).1 117 j = if j = b then nI ((σ.1 b).1.length + 1) else C.1 117 j := by
      intro j
      rw [sI_1, if_neg (by omega), sI_1, if_neg (by omega), sI_1, if_neg (by omega), sI_1]
      by_cases e : j = b
      · rw [if_pos ⟨rfl, e⟩, if_pos e]
      · rw [if_neg (by omega), if_neg e, sI_1, if_neg (by omega)]
    have e8 : ∀ j, (sI (sI (sI (sI (sI C 132 F 0) 117 b (nI ((σ.1 b).1.length + 1))) 130 F ((σ.1 b).2 + 1)) 118 b ((σ.1 b).2 + 1 + 1)) 115 (40 * b + (σ.1 b).1.length) ((σ.1 b).2 + 1)).1 118 j = if j = b then (σ.1 b).2 + 1 + 1 else C.1 118 j := by
      intro j
      rw [sI_1, if_neg (by omega), sI_1]
      by_cases e : j = b
      · rw [if_pos ⟨rfl, e⟩, if_pos e]
      · rw [if_neg (by omega), if_neg e, sI_1, if_neg (by omega), sI_1, if_neg (by omega), sI_1, if_neg (by omega)]
    have e13 : (sI (sI (sI (sI (sI C 132 F 0) 117 b (nI ((σ.1 b).1.length + 1))) 130 F ((σ.1 b).2 + 1)) 118 b ((σ.1 b).2 + 1 + 1)) 115 (40 * b + (σ.1 b).1.length) ((σ.1 b).2 + 1)).1 130 F = (σ.1 b).2 + 1 := by rw [sI_1, if_neg (by omega)]; exact x3
    have e12 : (sI (sI (sI (sI (sI C 132 F 0) 117 b (nI ((σ.1 b).1.length + 1))) 130 F ((σ.1 b).2 + 1)) 118 b ((σ.1 b).2 + 1 + 1)) 115 (40 * b + (σ.1 b).1.length) ((σ.1 b).2 + 1)).1 132 F = 0 := by rw [sI_1, if_neg (by omega), sI_1, if_neg (by omega), sI_1, if_neg (by omega), sI_1, if_neg (by omega), sI_1, if_pos ⟨rfl, rfl⟩]
    have eJ : (sI (sI (sI (sI (sI C 132 F 0) 117 b (nI ((σ.1 b).1.length + 1))) 130 F ((σ.1 b).2 + 1)) 118 b ((σ.1 b).2 + 1 + 1)) 115 (40 * b + (σ.1 b).1.length) ((σ.1 b).2 + 1)).2 = C.2 := rfl
    have W6 : RWM C6 (sWd S) (rsA σ.1 b N) := WV_A (F := F) B.2.1.1 hb hl B.2.2.2.1 rfl e5 e7 eJ h6
    generalize hC5 : sI (sI (sI (sI (sI C 132 F 0) 117 b (nI ((σ.1 b).1.length + 1))) 130 F ((σ.1 b).2 + 1)) 118 b ((σ.1 b).2 + 1 + 1)) 115 (40 * b + (σ.1 b).1.length) ((σ.1 b).2 + 1) = C5 at *
    have eK : ∀ kk j, kk ≠ 131 → kk ≠ 132 → kk ≠ 117 → kk ≠ 130 → kk ≠ 118 → kk ≠ 115 → (sI C6 131 F 4).1 kk j = C.1 kk j := fun kk j a0 a1 a2 a3 a4 a5 => by rw [sI_1, if_neg (by omega), h6.1, eA kk j a1 a2 a3 a4 a5]
    have q7 : frQ F C (sI C6 131 F 4) := frQ_t q6 (frQ_I (by omega))
    have X1 := B.2.1.2.2
    refine ⟨⟨MSt_Q q7 B.1, ⟨RWM_V (frV_I (by omega)) W6, fun q hq => ?_, ⟨(eK 76 93 (by decide) (by decide) (by decide) (by decide) (by decide) (by decide)).trans X1.1.1, X1.1.2.1, (eK 76 95 (by decide) (by decide) (by decide) (by decide) (by decide) (by decide)).trans X1.1.2.2.1, X1.1.2.2.2⟩, ⟨(eK 76 94 (by decide) (by decide) (by decide) (by decide) (by decide) (by decide)).trans X1.2.1.1, X1.2.1.2⟩, ⟨(eK 76 75 (by decide) (by decide) (by decide) (by decide) (by decide) (by decide)).trans X1.2.2.1.1, X1.2.2.1.2⟩, (eK 76 89 (by decide) (by decide) (by decide) (by decide) (by decide) (by decide)).trans X1.2.2.2.1, (eK 76 74 (by decide) (by decide) (by decide) (by decide) (by decide) (by decide)).trans X1.2.2.2.2⟩, ⟨(eK 125 F (by decide) (by decide) (by decide) (by decide) (by decide) (by decide)).trans hs.1, (eK 128 F (by decide) (by decide) (by decide) (by decide) (by decide) (by decide)).trans hs.2.1, (eK 129 F (by decide) (by decide) (by decide) (by decide) (by decide) (by decide)).trans hs.2.2.1, ?_, ?_, ?_⟩, fun c hc => ?_, fun c hc => ?_⟩, q7⟩
    · rw [sI_1, if_neg (by omega), h6.1, e8]
      show _ = (rsA σ.1 b N q).2 + 1
      rw [rsA_2]
      by_cases e : q = b
      · rw [if_pos e, if_pos e]
      · rw [if_neg e, if_neg e]
        exact B.2.1.2.1 q hq
    · rw [sI_1, if_neg (by omega), h6.1]
      exact e13
    · rw [sI_1, if_pos ⟨rfl, rfl⟩]
    · rw [sI_1, if_neg (by omega), h6.1]
      exact e12
    · show C6.2.1 136 _ = _
      rw [h6.2.1 136 _ (by decide), eJ]
      exact B.2.2.2.1 c hc
    · show C6.2.1 137 _ = _
      rw [h6.2.1 137 _ (by decide), eJ]
      exact B.2.2.2.2 c hc
  refine w_p (pc1 := 1) rfl rfl ?_
  refine w_m0 (pc1 := 4) rfl rfl (h_gC rfl rfl rfl rfl) rfl ?_
  refine w_p (pc1 := 5) rfl rfl ?_
  refine w_m0 (pc1 := 6) (st1 := .int (nI (b)) :: _) rfl rfl (n_ile (e := F) rfl rfl rfl (by omega) (hs.2.2.1)) rfl ?_
  refine w_p (pc1 := 7) (al1 := [(2, .int (nI (b))), (0, .ref 176), (1, .int (nI (F)))]) rfl rfl ?_
  refine w_p (pc1 := 8) rfl rfl ?_
  refine w_m0 (pc1 := 11) rfl rfl (h_gC rfl rfl rfl rfl) rfl ?_
  refine w_p (pc1 := 12) rfl rfl ?_
  refine w_p (pc1 := 13) (st1 := .int 0 :: _) rfl rfl ?_
  refine w_m0 (pc1 := 14) rfl rfl (n_is (e := F) rfl rfl rfl (by omega)) rfl ?_
  refine w_p (pc1 := 15) rfl rfl ?_
  refine w_m0 (pc1 := 18) rfl rfl (h_gC rfl rfl rfl rfl) rfl ?_
  refine w_p (pc1 := 19) rfl rfl ?_
  refine w_m0 (pc1 := 20) (st1 := .int 0 :: _) rfl rfl (n_ile (e := F) rfl rfl rfl (by omega) (k1)) rfl ?_
  refine w_f (a := 150) (b := 23) rfl rfl rfl ?_
  refine w_p (pc1 := 24) rfl rfl ?_
  refine w_m0 (pc1 := 27) rfl rfl (h_gC rfl rfl rfl rfl) rfl ?_
  refine w_p (pc1 := 28) rfl rfl ?_
  refine w_m0 (pc1 := 29) (st1 := .int (nI ((σ.1 b).1.length)) :: _) rfl rfl (n_ile (e := b) rfl rfl rfl (by omega) (g2')) rfl ?_
  refine w_p (pc1 := 31) (st1 := .int 40 :: _) rfl rfl ?_
  refine w_t (a := 41) (b := 34) (bN_ne_t (a := (σ.1 b).1.length) (b := 40) (by omega) (by omega) (by omega)) rfl rfl ?_
  refine w_p (pc1 := 42) rfl rfl ?_
  refine w_m0 (pc1 := 45) rfl rfl (h_gC rfl rfl rfl rfl) rfl ?_
  refine w_p (pc1 := 46) rfl rfl ?_
  refine w_m0 (pc1 := 47) (st1 := .int (nI ((σ.1 b).1.length)) :: _) rfl rfl (n_ile (e := b) rfl rfl rfl (by omega) (g2')) rfl ?_
  refine w_p (pc1 := 48) (al1 := [(3, .int (nI ((σ.1 b).1.length))), (2, .int (nI (b))), (0, .ref 176), (1, .int (nI (F)))]) rfl rfl ?_
  refine w_p (pc1 := 49) rfl rfl ?_
  refine w_m0 (pc1 := 52) rfl rfl (h_gC rfl rfl rfl rfl) rfl ?_
  refine w_p (pc1 := 53) rfl rfl ?_
  refine w_p (pc1 := 54) rfl rfl ?_
  refine w_m0 (pc1 := 55) (st1 := .int (nI ((σ.1 b).1.length)) :: _) rfl rfl (n_ile (e := b) rfl rfl rfl (by omega) (g2')) rfl ?_
  refine w_p (pc1 := 56) (st1 := .int 1 :: _) rfl rfl ?_
  refine w_iadd (pc1 := 57) (u := nI ((σ.1 b).1.length)) (v := nI (1)) (z := nI ((σ.1 b).1.length + 1)) rfl (nK_add) rfl ?_
  refine w_m0 (pc1 := 58) rfl rfl (n_is (e := b) rfl rfl rfl (by omega)) rfl ?_
  refine w_p (pc1 := 59) rfl rfl ?_
  refine w_m0 (pc1 := 62) rfl rfl (h_gC rfl rfl rfl rfl) rfl ?_
  refine w_p (pc1 := 63) rfl rfl ?_
  refine w_p (pc1 := 64) rfl rfl ?_
  refine w_m0 (pc1 := 67) rfl rfl (h_gC rfl rfl rfl rfl) rfl ?_
  refine w_p (pc1 := 68) rfl rfl ?_
  refine w_m0 (pc1 := 69) (st1 := .int ((σ.1 b).2 + 1) :: _) rfl rfl (n_ile (e := b) rfl rfl rfl (by omega) (x1)) rfl ?_
  refine w_m0 (pc1 := 70) rfl rfl (n_is (e := F) rfl rfl rfl (by omega)) rfl ?_
  refine w_p (pc1 := 71) rfl rfl ?_
  refine w_m0 (pc1 := 74) rfl rfl (h_gC rfl rfl rfl rfl) rfl ?_
  refine w_p (pc1 := 75) rfl rfl ?_
  refine w_p (pc1 := 76) rfl rfl ?_
  refine w_m0 (pc1 := 77) (st1 := .int ((σ.1 b).2 + 1) :: _) rfl rfl (n_ile (e := b) rfl rfl rfl (by omega) (x2)) rfl ?_
  refine w_p (pc1 := 78) (st1 := .int 1 :: _) rfl rfl ?_
  refine w_p (pc1 := 79) rfl rfl ?_
  refine w_m0 (pc1 := 80) rfl rfl (n_is (e := b) rfl rfl rfl (by omega)) rfl ?_
  refine w_p (pc1 := 81) rfl rfl ?_
  refine w_m0 (pc1 := 84) rfl rfl (h_gC rfl rfl rfl rfl) rfl ?_
  refine w_p (pc1 := 86) (st1 := .int 40 :: _) rfl rfl ?_
  refine w_p (pc1 := 87) rfl rfl ?_
  refine w_imul (pc1 := 88) (u := nI (40)) (v := nI (b)) (z := nI (40 * b)) rfl (nK_mul) rfl ?_
  refine w_p (pc1 := 89) rfl rfl ?_
  refine w_iadd (pc1 := 90) (u := nI (40 * b)) (v := nI ((σ.1 b).1.length)) (z := nI (40 * b + ((σ.1 b).1.length))) rfl (nK_add) rfl ?_
  refine w_p (pc1 := 91) rfl rfl ?_
  refine w_m0 (pc1 := 94) rfl rfl (h_gC rfl rfl rfl rfl) rfl ?_
  refine w_p (pc1 := 95) rfl rfl ?_
  refine w_m0 (pc1 := 96) (st1 := .int ((σ.1 b).2 + 1) :: _) rfl rfl (n_ile (e := F) rfl rfl rfl (by omega) (x3)) rfl ?_
  refine w_m0 (pc1 := 97) rfl rfl (n_is (e := 40 * b + ((σ.1 b).1.length)) rfl rfl rfl (by omega)) rfl ?_
  refine w_p (pc1 := 98) (st1 := .int 0 :: _) rfl rfl ?_
  refine w_p (pc1 := 100) (al1 := [(4, .int 0), (3, .int (nI ((σ.1 b).1.length))), (2, .int (nI (b))), (0, .ref 176), (1, .int (nI (F)))]) rfl rfl ?_
  refine lp_267a hb hl (by omega) (fun C6 h6 => ?_) 6 0 _ rfl WV_r
  refine w_p (pc1 := 143) rfl rfl ?_
  refine w_m0 (pc1 := 146) rfl rfl (h_gC rfl rfl rfl rfl) rfl ?_
  refine w_p (pc1 := 147) rfl rfl ?_
  refine w_p (pc1 := 148) (st1 := .int 4 :: _) rfl rfl ?_
  refine w_m0 (pc1 := 149) rfl rfl (n_is (e := F) rfl rfl rfl (by omega)) rfl ?_
  refine w_r rfl rfl rfl (fun _ _ => rfl) rfl ?_
  exact ⟨rfl, ⟨_, HH C6 h6, rfl⟩, rfl⟩
set_option maxRecDepth 100000 in
theorem m_267_n1 (hF : F < 39) (hb : b < 6) (ho : okSt S) (B : TB S σ (D + 1) F b 1 i0 ph nx N O C) (hfd : fdr i0 (σ.1 b).1 0 = none) : Wd L xs (d + 6) y_267 (0, [(0, .ref 176), (1, .int (nI (F)))], [], MH C t, 0) (QR t (fun C' => sI (sI (sI C 132 F 0) 76 75 (nI F)) 76 94 (nI D) = C')) nX := by
  have hs := B.2.2.1
  have hD := B.2.1.2.2.2.1.2
  have hw := w3k6 (kd := 1) ho hb
  obtain ⟨g1, g2, g3, g4⟩ := B.2.1.1 b hb
  have B1 := TB_n (v := 0) B
  have q1 : frQ F C (sI C 132 F 0) := frQ_I (by omega)
  have k1 : (sI C 132 F 0).1 128 F = 1 := B1.2.2.1.2.1
  have k2 : (sI C 132 F 0).1 130 F = i0 := B1.2.2.1.2.2.2.1
  have h75 : (sI C 132 F 0).1 76 75 = nI (F + 1) := B1.2.1.2.2.2.2.1.1
  have h94 : (sI (sI C 132 F 0) 76 75 (nI F)).1 76 94 = nI (D + 1) := B1.2.1.2.2.2.1.1
  have hm1 := m_261 (L := L) (xs := xs) (t := t) (d := d + 5) (sl := 0) (ii := i0) B1.2.1.1 hb
  rw [hfd] at hm1
  refine w_p (pc1 := 1) rfl rfl ?_
  refine w_m0 (pc1 := 4) rfl rfl (h_gC rfl rfl rfl rfl) rfl ?_
  refine w_p (pc1 := 5) rfl rfl ?_
  refine w_m0 (pc1 := 6) (st1 := .int (nI (b)) :: _) rfl rfl (n_ile (e := F) rfl rfl rfl (by omega) (hs.2.2.1)) rfl ?_
  refine w_p (pc1 := 7) (al1 := [(2, .int (nI (b))), (0, .ref 176), (1, .int (nI (F)))]) rfl rfl ?_
  refine w_p (pc1 := 8) rfl rfl ?_
  refine w_m0 (pc1 := 11) rfl rfl (h_gC rfl rfl rfl rfl) rfl ?_
  refine w_p (pc1 := 12) rfl rfl ?_
  refine w_p (pc1 := 13) (st1 := .int 0 :: _) rfl rfl ?_
  refine w_m0 (pc1 := 14) rfl rfl (n_is (e := F) rfl rfl rfl (by omega)) rfl ?_
  refine w_p (pc1 := 15) rfl rfl ?_
  refine w_m0 (pc1 := 18) rfl rfl (h_gC rfl rfl rfl rfl) rfl ?_
  refine w_p (pc1 := 19) rfl rfl ?_
  refine w_m0 (pc1 := 20) (st1 := .int 1 :: _) rfl rfl (n_ile (e := F) rfl rfl rfl (by omega) (k1)) rfl ?_
  refine w_t (a := 150) (b := 23) rfl rfl rfl ?_
  refine w_p (pc1 := 151) rfl rfl ?_
  refine w_p (pc1 := 152) rfl rfl ?_
  refine w_p (pc1 := 153) rfl rfl ?_
  refine w_m0 (pc1 := 156) rfl rfl (h_gC rfl rfl rfl rfl) rfl ?_
  refine w_p (pc1 := 157) rfl rfl ?_
  refine w_m0 (pc1 := 158) (st1 := .int (i0) :: _) rfl rfl (n_ile (e := F) rfl rfl rfl (by omega) (k2)) rfl ?_
  refine w_je (pc1 := 161) (vs := [.ref 176, .int (nI (b)), .int (i0)]) (rest := []) (st1 := [.int (-1)]) (hm1) rfl rfl rfl (fun _ _ => rfl) rfl (by exact cl_v my_261 rfl rfl rfl (Nat.le_of_ble_eq_true rfl) rfl (MH_obj rfl rfl) rfl (by decide) rfl rfl) (by rfl) (Nat.le_of_ble_eq_true rfl) (Nat.le_of_ble_eq_true rfl) rfl (by rfl) ?_
  refine w_p (pc1 := 162) (al1 := [(3, .int (-1)), (2, .int (nI (b))), (0, .ref 176), (1, .int (nI (F)))]) rfl rfl ?_
  refine w_p (pc1 := 163) rfl rfl ?_
  refine w_p (pc1 := 164) (st1 := .int (-1) :: _) rfl rfl ?_
  refine w_f (a := 188) (b := 167) rfl rfl rfl ?_
  refine w_p (pc1 := 168) rfl rfl ?_
  refine w_p (pc1 := 169) rfl rfl ?_
  refine w_m0 (pc1 := 172) (st1 := .int (nI (F + 1)) :: _) rfl rfl (h_gIe (j := 75) rfl rfl rfl rfl rfl (h75)) rfl ?_
  refine w_p (pc1 := 173) (st1 := .int 1 :: _) rfl rfl ?_
  refine w_isub (pc1 := 174) (z := nI (F)) rfl (nK_s) rfl ?_
  refine w_m0 (pc1 := 177) rfl rfl (h_pI (j := 75) rfl rfl rfl rfl rfl rfl rfl ⟨rfl, rfl⟩ rfl) rfl ?_
  refine w_p (pc1 := 178) rfl rfl ?_
  refine w_p (pc1 := 179) rfl rfl ?_
  refine w_m0 (pc1 := 182) (st1 := .int (nI (D + 1)) :: _) rfl rfl (h_gIe (j := 94) rfl rfl rfl rfl rfl (h94)) rfl ?_
  refine w_p (pc1 := 183) (st1 := .int 1 :: _) rfl rfl ?_
  refine w_isub (pc1 := 184) (z := nI (D)) rfl (nK_s) rfl ?_
  refine w_m0 (pc1 := 187) rfl rfl (h_pI (j := 94) rfl rfl rfl rfl rfl rfl rfl ⟨rfl, rfl⟩ rfl) rfl ?_
  refine w_r rfl rfl rfl (fun _ _ => rfl) rfl ?_
  exact ⟨rfl, ⟨_, rfl, rfl⟩, rfl⟩
set_option maxRecDepth 100000 in
theorem m_267_n2 (hF : F < 39) (hb : b < 6) (ho : okSt S) (B : TB S σ (D + 1) F b 2 i0 ph nx N O C) (hfd : fdr i0 (σ.1 b).1 0 = none) : Wd L xs (d + 6) y_267 (0, [(0, .ref 176), (1, .int (nI (F)))], [], MH C t, 0) (QR t (fun C' => sI (sI (sI C 132 F 0) 76 75 (nI F)) 76 94 (nI D) = C')) nX := by
  have hs := B.2.2.1
  have hD := B.2.1.2.2.2.1.2
  have hw := w3k6 (kd := 2) ho hb
  obtain ⟨g1, g2, g3, g4⟩ := B.2.1.1 b hb
  have B1 := TB_n (v := 0) B
  have q1 : frQ F C (sI C 132 F 0) := frQ_I (by omega)
  have k1 : (sI C 132 F 0).1 128 F = 2 := B1.2.2.1.2.1
  have k2 : (sI C 132 F 0).1 130 F = i0 := B1.2.2.1.2.2.2.1
  have h75 : (sI C 132 F 0).1 76 75 = nI (F + 1) := B1.2.1.2.2.2.2.1.1
  have h94 : (sI (sI C 132 F 0) 76 75 (nI F)).1 76 94 = nI (D + 1) := B1.2.1.2.2.2.1.1
  have hm1 := m_261 (L := L) (xs := xs) (t := t) (d := d + 5) (sl := 0) (ii := i0) B1.2.1.1 hb
  rw [hfd] at hm1
  refine w_p (pc1 := 1) rfl rfl ?_
  refine w_m0 (pc1 := 4) rfl rfl (h_gC rfl rfl rfl rfl) rfl ?_
  refine w_p (pc1 := 5) rfl rfl ?_
  refine w_m0 (pc1 := 6) (st1 := .int (nI (b)) :: _) rfl rfl (n_ile (e := F) rfl rfl rfl (by omega) (hs.2.2.1)) rfl ?_
  refine w_p (pc1 := 7) (al1 := [(2, .int (nI (b))), (0, .ref 176), (1, .int (nI (F)))]) rfl rfl ?_
  refine w_p (pc1 := 8) rfl rfl ?_
  refine w_m0 (pc1 := 11) rfl rfl (h_gC rfl rfl rfl rfl) rfl ?_
  refine w_p (pc1 := 12) rfl rfl ?_
  refine w_p (pc1 := 13) (st1 := .int 0 :: _) rfl rfl ?_
  refine w_m0 (pc1 := 14) rfl rfl (n_is (e := F) rfl rfl rfl (by omega)) rfl ?_
  refine w_p (pc1 := 15) rfl rfl ?_
  refine w_m0 (pc1 := 18) rfl rfl (h_gC rfl rfl rfl rfl) rfl ?_
  refine w_p (pc1 := 19) rfl rfl ?_
  refine w_m0 (pc1 := 20) (st1 := .int 2 :: _) rfl rfl (n_ile (e := F) rfl rfl rfl (by omega) (k1)) rfl ?_
  refine w_t (a := 150) (b := 23) rfl rfl rfl ?_
  refine w_p (pc1 := 151) rfl rfl ?_
  refine w_p (pc1 := 152) rfl rfl ?_
  refine w_p (pc1 := 153) rfl rfl ?_
  refine w_m0 (pc1 := 156) rfl rfl (h_gC rfl rfl rfl rfl) rfl ?_
  refine w_p (pc1 := 157) rfl rfl ?_
  refine w_m0 (pc1 := 158) (st1 := .int (i0) :: _) rfl rfl (n_ile (e := F) rfl rfl rfl (by omega) (k2)) rfl ?_
  refine w_je (pc1 := 161) (vs := [.ref 176, .int (nI (b)), .int (i0)]) (rest := []) (st1 := [.int (-1)]) (hm1) rfl rfl rfl (fun _ _ => rfl) rfl (by exact cl_v my_261 rfl rfl rfl (Nat.le_of_ble_eq_true rfl) rfl (MH_obj rfl rfl) rfl (by decide) rfl rfl) (by rfl) (Nat.le_of_ble_eq_true rfl) (Nat.le_of_ble_eq_true rfl) rfl (by rfl) ?_
  refine w_p (pc1 := 162) (al1 := [(3, .int (-1)), (2, .int (nI (b))), (0, .ref 176), (1, .int (nI (F)))]) rfl rfl ?_
  refine w_p (pc1 := 163) rfl rfl ?_
  refine w_p (pc1 := 164) (st1 := .int (-1) :: _) rfl rfl ?_
  refine w_f (a := 188) (b := 167) rfl rfl rfl ?_
  refine w_p (pc1 := 168) rfl rfl ?_
  refine w_p (pc1 := 169) rfl rfl ?_
  refine w_m0 (pc1 := 172) (st1 := .int (nI (F + 1)) :: _) rfl rfl (h_gIe (j := 75) rfl rfl rfl rfl rfl (h75)) rfl ?_
  refine w_p (pc1 := 173) (st1 := .int 1 :: _) rfl rfl ?_
  refine w_isub (pc1 := 174) (z := nI (F)) rfl (nK_s) rfl ?_
  refine w_m0 (pc1 := 177) rfl rfl (h_pI (j := 75) rfl rfl rfl rfl rfl rfl rfl ⟨rfl, rfl⟩ rfl) rfl ?_
  refine w_p (pc1 := 178) rfl rfl ?_
  refine w_p (pc1 := 179) rfl rfl ?_
  refine w_m0 (pc1 := 182) (st1 := .int (nI (D + 1)) :: _) rfl rfl (h_gIe (j := 94) rfl rfl rfl rfl rfl (h94)) rfl ?_
  refine w_p (pc1 := 183) (st1 := .int 1 :: _) rfl rfl ?_
  refine w_isub (pc1 := 184) (z := nI (D)) rfl (nK_s) rfl ?_
  refine w_m0 (pc1 := 187) rfl rfl (h_pI (j := 94) rfl rfl rfl rfl rfl rfl rfl ⟨rfl, rfl⟩ rfl) rfl ?_
  refine w_r rfl rfl rfl (fun _ _ => rfl) rfl ?_
  exact ⟨rfl, ⟨_, rfl, rfl⟩, rfl⟩
set_option maxRecDepth 100000 in
theorem rsU_2 {x : List ro_T × Int32} (h : x.2 = (rs b).2) (q : Nat) : (rsU rs b x q).2 = (rs q).2 := by
  unfold rsU
  by_cases e : q = b
  · rw [if_pos e, e, h]
  · rw [if_neg e]
set_option maxRecDepth 100000 in
theorem m_267_1 (hF : F < 39) (hb : b < 6) (ho : okSt S) (B : TB S σ D F b 1 i0 ph nx N O C) (hfd : fdr i0 (σ.1 b).1 0 = some (k, r)) : Wd L xs (d + 6) y_267 (0, [(0, .ref 176), (1, .int (nI (F)))], [], MH C t, 0) (QR t (fun C' => TB S (rsW σ.1 b k (r.1, N), σ.2) D F b 1 i0 2 0 N O C' ∧ frQ F C C')) nX := by
  have hs := B.2.2.1
  have hD := B.2.1.2.2.2.1.2
  have hw := w3k6 (kd := 1) ho hb
  obtain ⟨g1, g2, g3, g4⟩ := B.2.1.1 b hb
  have B1 := TB_n (v := 0) B
  have q1 : frQ F C (sI C 132 F 0) := frQ_I (by omega)
  obtain ⟨_, hr0, hri⟩ := fdr_s hfd
  rw [Nat.sub_zero] at hr0
  have hkl := get_lt hr0
  have k1 : (sI C 132 F 0).1 128 F = 1 := B1.2.2.1.2.1
  have k2 : (sI C 132 F 0).1 130 F = i0 := B1.2.2.1.2.2.2.1
  have hm1 := m_261 (L := L) (xs := xs) (t := t) (d := d + 5) (sl := 0) (ii := i0) B1.2.1.1 hb
  rw [hfd] at hm1
  have HH : ∀ C6, frQ F (sI C 132 F 0) C6 → (∀ kk j, kk ≠ 115 → kk ≠ 117 → C6.1 kk j = (sI C 132 F 0).1 kk j) → (∀ kk j, kk ≠ 116 → C6.2.1 kk j = C.2.1 kk j) → RWM C6 (sWd S) (rsW σ.1 b k (r.1, N)) → (∀ q, ((rsW σ.1 b k (r.1, N)) q).2 = (σ.1 q).2) → TB S (rsW σ.1 b k (r.1, N), σ.2) D F b 1 i0 2 0 N O (sI C6 131 F 2) ∧ frQ F C (sI C6 131 F 2) := by
    intro C6 q6 e1 e2 W6 en
    have X1 := B1.2.1.2.2
    have q7 : frQ F C (sI C6 131 F 2) := frQ_t q1 (frQ_t q6 (frQ_I (by omega)))
    have eK : ∀ kk j, kk ≠ 131 → kk ≠ 115 → kk ≠ 117 → (sI C6 131 F 2).1 kk j = (sI C 132 F 0).1 kk j := fun kk j a1 a2 a3 => by rw [sI_1, if_neg (by omega), e1 kk j a2 a3]
    have hs1 := B1.2.2.1
    refine ⟨⟨MSt_Q q7 B.1, ⟨RWM_V (frV_I (by omega)) W6, fun q hq => ?_, ⟨(eK 76 93 (by decide) (by decide) (by decide)).trans X1.1.1, X1.1.2.1, (eK 76 95 (by decide) (by decide) (by decide)).trans X1.1.2.2.1, X1.1.2.2.2⟩, ⟨(eK 76 94 (by decide) (by decide) (by decide)).trans X1.2.1.1, X1.2.1.2⟩, ⟨(eK 76 75 (by decide) (by decide) (by decide)).trans X1.2.2.1.1, X1.2.2.1.2⟩, (eK 76 89 (by decide) (by decide) (by decide)).trans X1.2.2.2.1, (eK 76 74 (by decide) (by decide) (by decide)).trans X1.2.2.2.2⟩, ⟨(eK 125 F (by decide) (by decide) (by decide)).trans hs1.1, (eK 128 F (by decide) (by decide) (by decide)).trans hs1.2.1, (eK 129 F (by decide) (by decide) (by decide)).trans hs1.2.2.1, (eK 130 F (by decide) (by decide) (by decide)).trans hs1.2.2.2.1, ?_, (eK 132 F (by decide) (by decide) (by decide)).trans hs1.2.2.2.2.2⟩, fun c hc => (e2 136 _ (by decide)).trans (B.2.2.2.1 c hc), fun c hc => (e2 137 _ (by decide)).trans (B.2.2.2.2 c hc)⟩, q7⟩
    · rw [eK 118 q (by decide) (by decide) (by decide), B1.2.1.2.1 q hq]
      exact congrArg (· + 1) (en q).symm
    · rw [sI_1, if_pos ⟨rfl, rfl⟩]
  refine w_p (pc1 := 1) rfl rfl ?_
  refine w_m0 (pc1 := 4) rfl rfl (h_gC rfl rfl rfl rfl) rfl ?_
  refine w_p (pc1 := 5) rfl rfl ?_
  refine w_m0 (pc1 := 6) (st1 := .int (nI (b)) :: _) rfl rfl (n_ile (e := F) rfl rfl rfl (by omega) (hs.2.2.1)) rfl ?_
  refine w_p (pc1 := 7) (al1 := [(2, .int (nI (b))), (0, .ref 176), (1, .int (nI (F)))]) rfl rfl ?_
  refine w_p (pc1 := 8) rfl rfl ?_
  refine w_m0 (pc1 := 11) rfl rfl (h_gC rfl rfl rfl rfl) rfl ?_
  refine w_p (pc1 := 12) rfl rfl ?_
  refine w_p (pc1 := 13) (st1 := .int 0 :: _) rfl rfl ?_
  refine w_m0 (pc1 := 14) rfl rfl (n_is (e := F) rfl rfl rfl (by omega)) rfl ?_
  refine w_p (pc1 := 15) rfl rfl ?_
  refine w_m0 (pc1 := 18) rfl rfl (h_gC rfl rfl rfl rfl) rfl ?_
  refine w_p (pc1 := 19) rfl rfl ?_
  refine w_m0 (pc1 := 20) (st1 := .int 1 :: _) rfl rfl (n_ile (e := F) rfl rfl rfl (by omega) (k1)) rfl ?_
  refine w_t (a := 150) (b := 23) rfl rfl rfl ?_
  refine w_p (pc1 := 151) rfl rfl ?_
  refine w_p (pc1 := 152) rfl rfl ?_
  refine w_p (pc1 := 153) rfl rfl ?_
  refine w_m0 (pc1 := 156) rfl rfl (h_gC rfl rfl rfl rfl) rfl ?_
  refine w_p (pc1 := 157) rfl rfl ?_
  refine w_m0 (pc1 := 158) (st1 := .int (i0) :: _) rfl rfl (n_ile (e := F) rfl rfl rfl (by omega) (k2)) rfl ?_
  refine w_je (pc1 := 161) (vs := [.ref 176, .int (nI (b)), .int (i0)]) (rest := []) (st1 := [.int (nI (k))]) (hm1) rfl rfl rfl (fun _ _ => rfl) rfl (by exact cl_v my_261 rfl rfl rfl (Nat.le_of_ble_eq_true rfl) rfl (MH_obj rfl rfl) rfl (by decide) rfl rfl) (by rfl) (Nat.le_of_ble_eq_true rfl) (Nat.le_of_ble_eq_true rfl) rfl (by rfl) ?_
  refine w_p (pc1 := 162) (al1 := [(3, .int (nI (k))), (2, .int (nI (b))), (0, .ref 176), (1, .int (nI (F)))]) rfl rfl ?_
  refine w_p (pc1 := 163) rfl rfl ?_
  refine w_p (pc1 := 164) (st1 := .int (-1) :: _) rfl rfl ?_
  refine w_t (a := 188) (b := 167) (cb_ne_t (by exact nK_m1 (by omega))) rfl rfl ?_
  refine w_p (pc1 := 189) rfl rfl ?_
  refine w_m0 (pc1 := 192) rfl rfl (h_gC rfl rfl rfl rfl) rfl ?_
  refine w_p (pc1 := 193) rfl rfl ?_
  refine w_m0 (pc1 := 194) (st1 := .int 1 :: _) rfl rfl (n_ile (e := F) rfl rfl rfl (by omega) (k1)) rfl ?_
  refine w_p (pc1 := 195) (st1 := .int 1 :: _) rfl rfl ?_
  refine w_f (a := 246) (b := 198) rfl rfl rfl ?_
  refine w_p (pc1 := 199) (st1 := .int 0 :: _) rfl rfl ?_
  refine w_p (pc1 := 201) (al1 := [(4, .int 0), (3, .int (nI (k))), (2, .int (nI (b))), (0, .ref 176), (1, .int (nI (F)))]) rfl rfl ?_
  refine lp_267b hb (by omega) (by omega) (fun C6 h6 => ?_) 6 0 _ rfl WV_r
  have h7 := HH C6 (WV_Q h6) (fun kk j _ _ => h6.1 kk j) (fun kk j h => h6.2.1 kk j h) (WV_W (F := F) B1.2.1.1 hb hr0 B.2.2.2.1 h6) (rsU_2 rfl)
  refine w_p (pc1 := 252) rfl rfl ?_
  refine w_p (pc1 := 253) rfl rfl ?_
  refine w_m0 (pc1 := 256) rfl rfl (h_gC rfl rfl rfl rfl) rfl ?_
  refine w_p (pc1 := 257) rfl rfl ?_
  refine w_p (pc1 := 258) (st1 := .int 2 :: _) rfl rfl ?_
  refine w_m0 (pc1 := 259) rfl rfl (n_is (e := F) rfl rfl rfl (by omega)) rfl ?_
  refine w_r rfl rfl rfl (fun _ _ => rfl) rfl ?_
  exact ⟨rfl, ⟨_, h7, rfl⟩, rfl⟩
set_option maxRecDepth 100000 in
theorem m_267_2 (hF : F < 39) (hb : b < 6) (ho : okSt S) (B : TB S σ D F b 2 i0 ph nx N O C) (hfd : fdr i0 (σ.1 b).1 0 = some (k, r)) : Wd L xs (d + 6) y_267 (0, [(0, .ref 176), (1, .int (nI (F)))], [], MH C t, 0) (QR t (fun C' => TB S (rsD σ.1 b k, σ.2) D F b 2 i0 2 0 N O C' ∧ frQ F C C')) nX := by
  have hs := B.2.2.1
  have hD := B.2.1.2.2.2.1.2
  have hw := w3k6 (kd := 2) ho hb
  obtain ⟨g1, g2, g3, g4⟩ := B.2.1.1 b hb
  have B1 := TB_n (v := 0) B
  have q1 : frQ F C (sI C 132 F 0) := frQ_I (by omega)
  obtain ⟨_, hr0, hri⟩ := fdr_s hfd
  rw [Nat.sub_zero] at hr0
  have hkl := get_lt hr0
  have k1 : (sI C 132 F 0).1 128 F = 2 := B1.2.2.1.2.1
  have k2 : (sI C 132 F 0).1 130 F = i0 := B1.2.2.1.2.2.2.1
  have hm1 := m_261 (L := L) (xs := xs) (t := t) (d := d + 5) (sl := 0) (ii := i0) B1.2.1.1 hb
  rw [hfd] at hm1
  have HH : ∀ C6, frQ F (sI C 132 F 0) C6 → (∀ kk j, kk ≠ 115 → kk ≠ 117 → C6.1 kk j = (sI C 132 F 0).1 kk j) → (∀ kk j, kk ≠ 116 → C6.2.1 kk j = C.2.1 kk j) → RWM C6 (sWd S) (rsD σ.1 b k) → (∀ q, ((rsD σ.1 b k) q).2 = (σ.1 q).2) → TB S (rsD σ.1 b k, σ.2) D F b 2 i0 2 0 N O (sI C6 131 F 2) ∧ frQ F C (sI C6 131 F 2) := by
    intro C6 q6 e1 e2 W6 en
    have X1 := B1.2.1.2.2
    have q7 : frQ F C (sI C6 131 F 2) := frQ_t q1 (frQ_t q6 (frQ_I (by omega)))
    have eK : ∀ kk j, kk ≠ 131 → kk ≠ 115 → kk ≠ 117 → (sI C6 131 F 2).1 kk j = (sI C 132 F 0).1 kk j := fun kk j a1 a2 a3 => by rw [sI_1, if_neg (by omega), e1 kk j a2 a3]
    have hs1 := B1.2.2.1
    refine ⟨⟨MSt_Q q7 B.1, ⟨RWM_V (frV_I (by omega)) W6, fun q hq => ?_, ⟨(eK 76 93 (by decide) (by decide) (by decide)).trans X1.1.1, X1.1.2.1, (eK 76 95 (by decide) (by decide) (by decide)).trans X1.1.2.2.1, X1.1.2.2.2⟩, ⟨(eK 76 94 (by decide) (by decide) (by decide)).trans X1.2.1.1, X1.2.1.2⟩, ⟨(eK 76 75 (by decide) (by decide) (by decide)).trans X1.2.2.1.1, X1.2.2.1.2⟩, (eK 76 89 (by decide) (by decide) (by decide)).trans X1.2.2.2.1, (eK 76 74 (by decide) (by decide) (by decide)).trans X1.2.2.2.2⟩, ⟨(eK 125 F (by decide) (by decide) (by decide)).trans hs1.1, (eK 128 F (by decide) (by decide) (by decide)).trans hs1.2.1, (eK 129 F (by decide) (by decide) (by decide)).trans hs1.2.2.1, (eK 130 F (by decide) (by decide) (by decide)).trans hs1.2.2.2.1, ?_, (eK 132 F (by decide) (by decide) (by decide)).trans hs1.2.2.2.2.2⟩, fun c hc => (e2 136 _ (by decide)).trans (B.2.2.2.1 c hc), fun c hc => (e2 137 _ (by decide)).trans (B.2.2.2.2 c hc)⟩, q7⟩
    · rw [eK 118 q (by decide) (by decide) (by decide), B1.2.1.2.1 q hq]
      exact congrArg (· + 1) (en q).symm
    · rw [sI_1, if_pos ⟨rfl, rfl⟩]
  have g2' : (sI C 132 F 0).1 117 b = nI (σ.1 b).1.length := by rw [sI_1, if_neg (by omega)]; exact g2
  have hta := m_268 (L := L) (xs := xs) (t := t) (d := d + 5) (sl := 0) (k := k) hb g2' hkl g3
  refine w_p (pc1 := 1) rfl rfl ?_
  refine w_m0 (pc1 := 4) rfl rfl (h_gC rfl rfl rfl rfl) rfl ?_
  refine w_p (pc1 := 5) rfl rfl ?_
  refine w_m0 (pc1 := 6) (st1 := .int (nI (b)) :: _) rfl rfl (n_ile (e := F) rfl rfl rfl (by omega) (hs.2.2.1)) rfl ?_
  refine w_p (pc1 := 7) (al1 := [(2, .int (nI (b))), (0, .ref 176), (1, .int (nI (F)))]) rfl rfl ?_
  refine w_p (pc1 := 8) rfl rfl ?_
  refine w_m0 (pc1 := 11) rfl rfl (h_gC rfl rfl rfl rfl) rfl ?_
  refine w_p (pc1 := 12) rfl rfl ?_
  refine w_p (pc1 := 13) (st1 := .int 0 :: _) rfl rfl ?_
  refine w_m0 (pc1 := 14) rfl rfl (n_is (e := F) rfl rfl rfl (by omega)) rfl ?_
  refine w_p (pc1 := 15) rfl rfl ?_
  refine w_m0 (pc1 := 18) rfl rfl (h_gC rfl rfl rfl rfl) rfl ?_
  refine w_p (pc1 := 19) rfl rfl ?_
  refine w_m0 (pc1 := 20) (st1 := .int 2 :: _) rfl rfl (n_ile (e := F) rfl rfl rfl (by omega) (k1)) rfl ?_
  refine w_t (a := 150) (b := 23) rfl rfl rfl ?_
  refine w_p (pc1 := 151) rfl rfl ?_
  refine w_p (pc1 := 152) rfl rfl ?_
  refine w_p (pc1 := 153) rfl rfl ?_
  refine w_m0 (pc1 := 156) rfl rfl (h_gC rfl rfl rfl rfl) rfl ?_
  refine w_p (pc1 := 157) rfl rfl ?_
  refine w_m0 (pc1 := 158) (st1 := .int (i0) :: _) rfl rfl (n_ile (e := F) rfl rfl rfl (by omega) (k2)) rfl ?_
  refine w_je (pc1 := 161) (vs := [.ref 176, .int (nI (b)), .int (i0)]) (rest := []) (st1 := [.int (nI (k))]) (hm1) rfl rfl rfl (fun _ _ => rfl) rfl (by exact cl_v my_261 rfl rfl rfl (Nat.le_of_ble_eq_true rfl) rfl (MH_obj rfl rfl) rfl (by decide) rfl rfl) (by rfl) (Nat.le_of_ble_eq_true rfl) (Nat.le_of_ble_eq_true rfl) rfl (by rfl) ?_
  refine w_p (pc1 := 162) (al1 := [(3, .int (nI (k))), (2, .int (nI (b))), (0, .ref 176), (1, .int (nI (F)))]) rfl rfl ?_
  refine w_p (pc1 := 163) rfl rfl ?_
  refine w_p (pc1 := 164) (st1 := .int (-1) :: _) rfl rfl ?_
  refine w_t (a := 188) (b := 167) (cb_ne_t (by exact nK_m1 (by omega))) rfl rfl ?_
  refine w_p (pc1 := 189) rfl rfl ?_
  refine w_m0 (pc1 := 192) rfl rfl (h_gC rfl rfl rfl rfl) rfl ?_
  refine w_p (pc1 := 193) rfl rfl ?_
  refine w_m0 (pc1 := 194) (st1 := .int 2 :: _) rfl rfl (n_ile (e := F) rfl rfl rfl (by omega) (k1)) rfl ?_
  refine w_p (pc1 := 195) (st1 := .int 1 :: _) rfl rfl ?_
  refine w_t (a := 246) (b := 198) rfl rfl rfl ?_
  refine w_p (pc1 := 247) rfl rfl ?_
  refine w_p (pc1 := 248) rfl rfl ?_
  refine w_p (pc1 := 249) rfl rfl ?_
  refine w_ji (pc1 := 252) (vs := [.ref 176, .int (nI (b)), .int (nI (k))]) (rest := []) (hta) rfl rfl rfl (fun _ _ => rfl) rfl (by exact cl_v my_268 rfl rfl rfl (Nat.le_of_ble_eq_true rfl) rfl (MH_obj rfl rfl) rfl (by decide) rfl rfl) (by rfl) (Nat.le_of_ble_eq_true rfl) (Nat.le_of_ble_eq_true rfl) rfl (fun v h m hq => ?_) (fun _ _ _ e => e.elim)
  obtain ⟨rfl, ⟨C6, h6, rfl⟩, rfl⟩ := hq
  have h7 := HH C6 (frQ_t (frQ_I (by omega)) (TA_Q h6)) (fun kk j a1 a2 => by rw [h6.1 kk j a1, sI_1, if_neg (by omega)]) (fun kk j h => h6.2.2.1 kk j h) (TA_W B1.2.1.1 hb hkl h6) (rsU_2 rfl)
  refine w_p (pc1 := 253) rfl rfl ?_
  refine w_m0 (pc1 := 256) rfl rfl (h_gC rfl rfl rfl rfl) rfl ?_
  refine w_p (pc1 := 257) rfl rfl ?_
  refine w_p (pc1 := 258) (st1 := .int 2 :: _) rfl rfl ?_
  refine w_m0 (pc1 := 259) rfl rfl (n_is (e := F) rfl rfl rfl (by omega)) rfl ?_
  refine w_r rfl rfl rfl (fun _ _ => rfl) rfl ?_
  exact ⟨rfl, ⟨_, h7, rfl⟩, rfl⟩
end MEb
