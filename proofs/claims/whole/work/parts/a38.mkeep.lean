
/-! THE OTHER SIDE: all rows are kept, brought back, moved -/
def CI (kd dp : Nat) (src : Nat → Int32) (i : Nat) (C0 C : co_T) : Prop := (∀ k j, ¬ (k = kd ∧ dp ≤ j ∧ j < dp + i) → C.1 k j = C0.1 k j) ∧ (∀ j, j < i → C.1 kd (dp + j) = src j) ∧ C.2 = C0.2
def CJ (kd dp : Nat) (src : Nat → Int64) (i : Nat) (C0 C : co_T) : Prop := (∀ k j, ¬ (k = kd ∧ dp ≤ j ∧ j < dp + i) → C.2.1 k j = C0.2.1 k j) ∧ (∀ j, j < i → C.2.1 kd (dp + j) = src j) ∧ C.1 = C0.1 ∧ C.2.2 = C0.2.2
def CD (k1 k2 dp : Nat) (s1 s2 : Nat → Int32) (i : Nat) (C0 C : co_T) : Prop := (∀ k j, ¬ ((k = k1 ∨ k = k2) ∧ dp ≤ j ∧ j < dp + i) → C.1 k j = C0.1 k j) ∧ (∀ j, j < i → C.1 k1 (dp + j) = s1 j ∧ C.1 k2 (dp + j) = s2 j) ∧ C.2 = C0.2
/-! rows of arrays b .. b + 3, from places on -/
def RWs (C : co_T) (b oI oJ oD : Nat) (wd : Nat → Nat) (rs : rs_T) : Prop := RWf (fun j => C.2.1 (b + 1) (oJ + j)) (fun j => C.1 b (oI + j)) (fun j => C.1 (b + 2) (oD + j)) wd rs ∧ ∀ q, q < 6 → C.1 (b + 3) (oD + q) = (rs q).2 + 1
def SLC (bd dI dJ dD bs sI_ sJ_ sD : Nat) (C0 C : co_T) : Prop := (∀ k j, ¬ (k = bd ∧ dI ≤ j ∧ j < dI + 240) → ¬ ((k = bd + 2 ∨ k = bd + 3) ∧ dD ≤ j ∧ j < dD + 6) → C.1 k j = C0.1 k j) ∧ (∀ j, j < 240 → C.1 bd (dI + j) = C0.1 bs (sI_ + j)) ∧ (∀ j, j < 6 → C.1 (bd + 2) (dD + j) = C0.1 (bs + 2) (sD + j) ∧ C.1 (bd + 3) (dD + j) = C0.1 (bs + 3) (sD + j)) ∧ (∀ k j, ¬ (k = bd + 1 ∧ dJ ≤ j ∧ j < dJ + 1440) → C.2.1 k j = C0.2.1 k j) ∧ (∀ j, j < 1440 → C.2.1 (bd + 1) (dJ + j) = C0.2.1 (bs + 1) (sJ_ + j)) ∧ C.2.2 = C0.2.2
section KEP
variable {L : Nat} {xs : Nat → Int32} {C C0 C1 C2 C3 : co_T} {t : ab_H} {d sl s u i j kd k1 k2 dp : Nat} {src s1 s2 : Nat → Int32} {srj : Nat → Int64} {v w : Int32} {x : Int64} {P : Option Value → ab_H → Nat → Prop} {X : Nat → ab_H → Nat → Prop} {wd : Nat → Nat} {rs : rs_T}
set_option maxRecDepth 100000 in
theorem CI_0 : CI kd dp src 0 C C := ⟨fun _ _ _ => rfl, fun j h => absurd h (by omega), rfl⟩
set_option maxRecDepth 100000 in
theorem CJ_0 : CJ kd dp srj 0 C C := ⟨fun _ _ _ => rfl, fun j h => absurd h (by omega), rfl, rfl⟩
set_option maxRecDepth 100000 in
theorem CD_0 : CD k1 k2 dp s1 s2 0 C C := ⟨fun _ _ _ => rfl, fun j h => absurd h (by omega), rfl⟩
set_option maxRecDepth 100000 in
theorem CI_s (h : CI kd dp src i C0 C) (hj : j = dp + i) (hv : v = src i) : CI kd dp src (i + 1) C0 (sI C kd j v) := by
  subst hj
  subst hv
  refine ⟨fun k q hq => by rw [sI_1, if_neg (by omega)]; exact h.1 k q (by omega), fun q hq => ?_, h.2.2⟩
  rw [sI_1]
  by_cases e : q = i
  · rw [if_pos ⟨rfl, by omega⟩, e]
  · rw [if_neg (by omega)]
    exact h.2.1 q (by omega)
set_option maxRecDepth 100000 in
theorem CJ_s (h : CJ kd dp srj i C0 C) (hj : j = dp + i) (hv : x = srj i) : CJ kd dp srj (i + 1) C0 (sJ C kd j x) := by
  subst hj
  subst hv
  refine ⟨fun k q hq => by rw [sJ_2, if_neg (by omega)]; exact h.1 k q (by omega), fun q hq => ?_, h.2.2.1, h.2.2.2⟩
  rw [sJ_2]
  by_cases e : q = i
  · rw [if_pos ⟨rfl, by omega⟩, e]
  · rw [if_neg (by omega)]
    exact h.2.1 q (by omega)
set_option maxRecDepth 100000 in
theorem CD_s (hk : k1 ≠ k2) (h : CD k1 k2 dp s1 s2 i C0 C) (hj : j = dp + i) (hv : v = s1 i) (hw : w = s2 i) : CD k1 k2 dp s1 s2 (i + 1) C0 (sI (sI C k1 j v) k2 j w) := by
  subst hj
  subst hv
  subst hw
  refine ⟨fun k q hq => by rw [sI_1, if_neg (by omega), sI_1, if_neg (by omega)]; exact h.1 k q (by omega), fun q hq => ?_, h.2.2⟩
  rw [sI_1, if_neg (by omega), sI_1, sI_1]
  by_cases e : q = i
  · rw [if_pos ⟨rfl, by omega⟩, if_pos ⟨rfl, by omega⟩, e]
    exact ⟨rfl, rfl⟩
  · rw [if_neg (by omega), if_neg (by omega), sI_1, if_neg (by omega)]
    exact h.2.1 q (by omega)
set_option maxRecDepth 100000 in
theorem RWs_M : RWs C 115 0 0 0 wd rs ↔ (RWM C wd rs ∧ ∀ q, q < 6 → C.1 118 q = (rs q).2 + 1) := by
  unfold RWs RWM
  simp only [Nat.zero_add]
set_option maxRecDepth 100000 in
theorem SLC_W {bd dI dJ dD bs sI_ sJ_ sD : Nat} (h : SLC bd dI dJ dD bs sI_ sJ_ sD C0 C) (W : RWs C0 bs sI_ sJ_ sD wd rs) : RWs C bd dI dJ dD wd rs := by
  obtain ⟨h1, h2, h3, h4, h5, h6⟩ := h
  refine ⟨fun b hb => ?_, fun q hq => (h3 q hq).2.trans (W.2 q hq)⟩
  obtain ⟨g1, g2, g3, g4⟩ := W.1 b hb
  refine ⟨g1, (h3 b hb).1.trans g2, g3, fun k r hr => ?_⟩
  have hk := get_lt hr
  exact ⟨(h2 _ (by omega)).trans (g4 k r hr).1, fun c hc => (h5 _ (by omega)).trans ((g4 k r hr).2 c hc)⟩
set_option maxRecDepth 100000 in
theorem SLC_m {bd dI dJ dD bs sI_ sJ_ sD : Nat} (hb : bs = bd → sD + 6 ≤ dD ∨ dD + 6 ≤ sD) (hbb : bs + 2 ≠ bd ∧ bs + 3 ≠ bd) (a : CI bd dI (fun j => C0.1 bs (sI_ + j)) 240 C0 C1) (b : CJ (bd + 1) dJ (fun j => C1.2.1 (bs + 1) (sJ_ + j)) 1440 C1 C2) (c : CD (bd + 2) (bd + 3) dD (fun j => C2.1 (bs + 2) (sD + j)) (fun j => C2.1 (bs + 3) (sD + j)) 6 C2 C3) : SLC bd dI dJ dD bs sI_ sJ_ sD C0 C3 := by
  have e1 : C2.1 = C1.1 := b.2.2.1
  have e2 : C1.2 = C0.2 := a.2.2
  have e3 : C3.2 = C2.2 := c.2.2
  refine ⟨fun k j h1 h2 => ?_, fun j hj => ?_, fun j hj => ⟨?_, ?_⟩, fun k j h1 => ?_, fun j hj => ?_, ?_⟩
  · rw [c.1 k j (by omega), e1]
    exact a.1 k j h1
  · rw [c.1 bd _ (by omega), e1]
    exact a.2.1 j hj
  · rw [(c.2.1 j hj).1]
    show C2.1 _ _ = _
    rw [e1]
    exact a.1 _ _ (by omega)
  · rw [(c.2.1 j hj).2]
    show C2.1 _ _ = _
    rw [e1]
    exact a.1 _ _ (by omega)
  · rw [e3, b.1 k j h1, e2]
  · rw [e3, b.2.1 j hj]
    show C1.2.1 _ _ = _
    rw [e2]
  · rw [e3, b.2.2.2, e2]
set_option maxRecDepth 100000 in
theorem lp_249_a (hs : s < 8) (H : ∀ C', CI 119 (240 * s) (fun j => C0.1 115 (0 + j)) 240 C0 C' → Wd L xs d y_249 (33, [(0, .ref 176), (1, .int (nI (s)))], [], MH C' t, sl) P X) : ∀ (m i : Nat) (C : co_T), i + m = 240 → CI 119 (240 * s) (fun j => C0.1 115 (0 + j)) i C0 C → Wd L xs d y_249 (2, [(2, .int (nI (i))), (0, .ref 176), (1, .int (nI (s)))], [], MH C t, sl) P X
  | 0, i, C, hi, hT => by
    obtain rfl : i = 240 := by omega
    refine w_p (pc1 := 3) rfl rfl ?_
    refine w_p (pc1 := 6) (st1 := .int 240 :: _) rfl rfl ?_
    refine w_t (a := 33) (b := 9) (bN_ge_t (a := 240) (b := 240) (by omega) (by omega) (by omega)) rfl rfl ?_
    refine Wd_al (al := [(0, .ref 176), (1, .int (nI (s)))]) (sba_p [1, 2] rfl rfl) ?_
    exact H C hT
  | m + 1, i, C, hi, hT => by
    have hv : C.1 115 (i) = C0.1 115 (0 + i) := by rw [Nat.zero_add]; exact hT.1 115 _ (by omega)
    refine w_p (pc1 := 3) rfl rfl ?_
    refine w_p (pc1 := 6) (st1 := .int 240 :: _) rfl rfl ?_
    refine w_f (a := 33) (b := 9) (bN_ge_f (a := i) (b := 240) (by omega) (by omega) (by omega)) rfl rfl ?_
    refine w_p (pc1 := 10) rfl rfl ?_
    refine w_m0 (pc1 := 13) rfl rfl (h_gC rfl rfl rfl rfl) rfl ?_
    refine w_p (pc1 := 16) (st1 := .int 240 :: _) rfl rfl ?_
    refine w_p (pc1 := 17) rfl rfl ?_
    refine w_imul (pc1 := 18) (u := nI (240)) (v := nI (s)) (z := nI (240 * s)) rfl (nK_mul) rfl ?_
    refine w_p (pc1 := 19) rfl rfl ?_
    refine w_iadd (pc1 := 20) (u := nI (240 * s)) (v := nI (i)) (z := nI (240 * s + i)) rfl (nK_add) rfl ?_
    refine w_p (pc1 := 21) rfl rfl ?_
    refine w_m0 (pc1 := 24) rfl rfl (h_gC rfl rfl rfl rfl) rfl ?_
    refine w_p (pc1 := 25) rfl rfl ?_
    refine w_m0 (pc1 := 26) (st1 := .int (C0.1 115 (0 + i)) :: _) rfl rfl (n_ile (e := i) rfl rfl rfl (by omega) (hv)) rfl ?_
    refine w_m0 (pc1 := 27) rfl rfl (n_is (e := 240 * s + i) rfl rfl rfl (by omega)) rfl ?_
    refine w_iinc (pc1 := 30) (u := nI (i)) (z := nI (i + 1)) (al1 := [(2, .int (nI (i + 1))), (0, .ref 176), (1, .int (nI (s)))]) rfl rfl rfl nK_1 rfl rfl ?_
    refine w_p (pc1 := 2) rfl rfl ?_
    exact lp_249_a hs H m (i + 1) _ (by omega) (CI_s hT (by omega) rfl)
set_option maxRecDepth 100000 in
theorem lp_249_b (hs : s < 8) (H : ∀ C', CJ 120 (1440 * s) (fun j => C0.2.1 116 (0 + j)) 1440 C0 C' → Wd L xs d y_249 (66, [(0, .ref 176), (1, .int (nI (s)))], [], MH C' t, sl) P X) : ∀ (m i : Nat) (C : co_T), i + m = 1440 → CJ 120 (1440 * s) (fun j => C0.2.1 116 (0 + j)) i C0 C → Wd L xs d y_249 (35, [(2, .int (nI (i))), (0, .ref 176), (1, .int (nI (s)))], [], MH C t, sl) P X
  | 0, i, C, hi, hT => by
    obtain rfl : i = 1440 := by omega
    refine w_p (pc1 := 36) rfl rfl ?_
    refine w_p (pc1 := 39) (st1 := .int 1440 :: _) rfl rfl ?_
    refine w_t (a := 66) (b := 42) (bN_ge_t (a := 1440) (b := 1440) (by omega) (by omega) (by omega)) rfl rfl ?_
    refine Wd_al (al := [(0, .ref 176), (1, .int (nI (s)))]) (sba_p [1, 2] rfl rfl) ?_
    exact H C hT
  | m + 1, i, C, hi, hT => by
    have hv : C.2.1 116 (i) = C0.2.1 116 (0 + i) := by rw [Nat.zero_add]; exact hT.1 116 _ (by omega)
    refine w_p (pc1 := 36) rfl rfl ?_
    refine w_p (pc1 := 39) (st1 := .int 1440 :: _) rfl rfl ?_
    refine w_f (a := 66) (b := 42) (bN_ge_f (a := i) (b := 1440) (by omega) (by omega) (by omega)) rfl rfl ?_
    refine w_p (pc1 := 43) rfl rfl ?_
    refine w_m0 (pc1 := 46) rfl rfl (h_gC rfl rfl rfl rfl) rfl ?_
    refine w_p (pc1 := 49) (st1 := .int 1440 :: _) rfl rfl ?_
    refine w_p (pc1 := 50) rfl rfl ?_
    refine w_imul (pc1 := 51) (u := nI (1440)) (v := nI (s)) (z := nI (1440 * s)) rfl (nK_mul) rfl ?_
    refine w_p (pc1 := 52) rfl rfl ?_
    refine w_iadd (pc1 := 53) (u := nI (1440 * s)) (v := nI (i)) (z := nI (1440 * s + i)) rfl (nK_add) rfl ?_
    refine w_p (pc1 := 54) rfl rfl ?_
    refine w_m0 (pc1 := 57) rfl rfl (h_gC rfl rfl rfl rfl) rfl ?_
    refine w_p (pc1 := 58) rfl rfl ?_
    refine w_m0 (pc1 := 59) (st1 := .long (C0.2.1 116 (0 + i)) :: _) rfl rfl (n_lle (e := i) rfl rfl rfl (by omega) (hv)) rfl ?_
    refine w_m0 (pc1 := 60) rfl rfl (n_ls (e := 1440 * s + i) rfl rfl rfl (by omega)) rfl ?_
    refine w_iinc (pc1 := 63) (u := nI (i)) (z := nI (i + 1)) (al1 := [(2, .int (nI (i + 1))), (0, .ref 176), (1, .int (nI (s)))]) rfl rfl rfl nK_1 rfl rfl ?_
    refine w_p (pc1 := 35) rfl rfl ?_
    exact lp_249_b hs H m (i + 1) _ (by omega) (CJ_s hT (by omega) rfl)
set_option maxRecDepth 100000 in
theorem lp_249_c (hs : s < 8) : ∀ (m i : Nat) (C : co_T), i + m = 6 → CD 121 122 (6 * s) (fun j => C0.1 117 (0 + j)) (fun j => C0.1 118 (0 + j)) i C0 C → Wd L xs d y_249 (68, [(2, .int (nI (i))), (0, .ref 176), (1, .int (nI (s)))], [], MH C t, sl) (fun v h q => none = v ∧ (∃ C', CD 121 122 (6 * s) (fun j => C0.1 117 (0 + j)) (fun j => C0.1 118 (0 + j)) 6 C0 C' ∧ MH C' t = h) ∧ sl = q) nX
  | 0, i, C, hi, hT => by
    obtain rfl : i = 6 := by omega
    refine w_p (pc1 := 69) rfl rfl ?_
    refine w_p (pc1 := 71) (st1 := .int 6 :: _) rfl rfl ?_
    refine w_t (a := 114) (b := 74) (bN_ge_t (a := 6) (b := 6) (by omega) (by omega) (by omega)) rfl rfl ?_
    refine w_r rfl rfl rfl (fun _ _ => rfl) rfl ?_
    exact ⟨rfl, ⟨C, hT, rfl⟩, rfl⟩
  | m + 1, i, C, hi, hT => by
    have hv : C.1 117 (i) = C0.1 117 (0 + i) := by rw [Nat.zero_add]; exact hT.1 117 _ (by omega)
    have hv2 : (sI C 121 (6 * s + i) (C0.1 117 (0 + i))).1 118 (i) = C0.1 118 (0 + i) := by rw [sI_1, if_neg (by omega)]; rw [Nat.zero_add]; exact hT.1 118 _ (by omega)
    refine w_p (pc1 := 69) rfl rfl ?_
    refine w_p (pc1 := 71) (st1 := .int 6 :: _) rfl rfl ?_
    refine w_f (a := 114) (b := 74) (bN_ge_f (a := i) (b := 6) (by omega) (by omega) (by omega)) rfl rfl ?_
    refine w_p (pc1 := 75) rfl rfl ?_
    refine w_m0 (pc1 := 78) rfl rfl (h_gC rfl rfl rfl rfl) rfl ?_
    refine w_p (pc1 := 80) (st1 := .int 6 :: _) rfl rfl ?_
    refine w_p (pc1 := 81) rfl rfl ?_
    refine w_imul (pc1 := 82) (u := nI (6)) (v := nI (s)) (z := nI (6 * s)) rfl (nK_mul) rfl ?_
    refine w_p (pc1 := 83) rfl rfl ?_
    refine w_iadd (pc1 := 84) (u := nI (6 * s)) (v := nI (i)) (z := nI (6 * s + i)) rfl (nK_add) rfl ?_
    refine w_p (pc1 := 85) rfl rfl ?_
    refine w_m0 (pc1 := 88) rfl rfl (h_gC rfl rfl rfl rfl) rfl ?_
    refine w_p (pc1 := 89) rfl rfl ?_
    refine w_m0 (pc1 := 90) (st1 := .int (C0.1 117 (0 + i)) :: _) rfl rfl (n_ile (e := i) rfl rfl rfl (by omega) (hv)) rfl ?_
    refine w_m0 (pc1 := 91) rfl rfl (n_is (e := 6 * s + i) rfl rfl rfl (by omega)) rfl ?_
    refine w_p (pc1 := 92) rfl rfl ?_
    refine w_m0 (pc1 := 95) rfl rfl (h_gC rfl rfl rfl rfl) rfl ?_
    refine w_p (pc1 := 97) (st1 := .int 6 :: _) rfl rfl ?_
    refine w_p (pc1 := 98) rfl rfl ?_
    refine w_imul (pc1 := 99) (u := nI (6)) (v := nI (s)) (z := nI (6 * s)) rfl (nK_mul) rfl ?_
    refine w_p (pc1 := 100) rfl rfl ?_
    refine w_iadd (pc1 := 101) (u := nI (6 * s)) (v := nI (i)) (z := nI (6 * s + i)) rfl (nK_add) rfl ?_
    refine w_p (pc1 := 102) rfl rfl ?_
    refine w_m0 (pc1 := 105) rfl rfl (h_gC rfl rfl rfl rfl) rfl ?_
    refine w_p (pc1 := 106) rfl rfl ?_
    refine w_m0 (pc1 := 107) (st1 := .int (C0.1 118 (0 + i)) :: _) rfl rfl (n_ile (e := i) rfl rfl rfl (by omega) (hv2)) rfl ?_
    refine w_m0 (pc1 := 108) rfl rfl (n_is (e := 6 * s + i) rfl rfl rfl (by omega)) rfl ?_
    refine w_iinc (pc1 := 111) (u := nI (i)) (z := nI (i + 1)) (al1 := [(2, .int (nI (i + 1))), (0, .ref 176), (1, .int (nI (s)))]) rfl rfl rfl nK_1 rfl rfl ?_
    refine w_p (pc1 := 68) rfl rfl ?_
    exact lp_249_c hs m (i + 1) _ (by omega) (CD_s (by decide) hT (by omega) rfl rfl)
set_option maxRecDepth 100000 in
theorem m_249 (hs : s < 8) : Wd L xs d y_249 (0, [(0, .ref 176), (1, .int (nI (s)))], [], MH C t, sl) (fun v h q => none = v ∧ (∃ C', SLC 119 (240 * s) (1440 * s) (6 * s) 115 (0) (0) (0) C C' ∧ MH C' t = h) ∧ sl = q) nX := by
  refine w_p (pc1 := 1) (st1 := .int 0 :: _) rfl rfl ?_
  refine w_p (pc1 := 2) (al1 := [(2, .int 0), (0, .ref 176), (1, .int (nI (s)))]) rfl rfl ?_
  refine lp_249_a (C0 := C) hs (fun C1 e1 => ?_) 240 0 C rfl CI_0
  refine w_p (pc1 := 34) (st1 := .int 0 :: _) rfl rfl ?_
  refine w_p (pc1 := 35) (al1 := [(2, .int 0), (0, .ref 176), (1, .int (nI (s)))]) rfl rfl ?_
  refine lp_249_b (C0 := C1) hs (fun C2 e2 => ?_) 1440 0 C1 rfl CJ_0
  refine w_p (pc1 := 67) (st1 := .int 0 :: _) rfl rfl ?_
  refine w_p (pc1 := 68) (al1 := [(2, .int 0), (0, .ref 176), (1, .int (nI (s)))]) rfl rfl ?_
  refine Wd_q (lp_249_c (C0 := C2) hs 6 0 C2 rfl CD_0) (fun v h q hq => ?_) (fun _ _ _ e => e)
  obtain ⟨z1, ⟨C3, z2, z3⟩, z4⟩ := hq
  exact ⟨z1, ⟨C3, SLC_m (by omega) (by omega) e1 e2 z2, z3⟩, z4⟩
set_option maxRecDepth 100000 in
theorem lp_278_a (hs : s < 8) (H : ∀ C', CI 115 (0) (fun j => C0.1 119 (240 * s + j)) 240 C0 C' → Wd L xs d y_278 (33, [(0, .ref 176), (1, .int (nI (s)))], [], MH C' t, sl) P X) : ∀ (m i : Nat) (C : co_T), i + m = 240 → CI 115 (0) (fun j => C0.1 119 (240 * s + j)) i C0 C → Wd L xs d y_278 (2, [(2, .int (nI (i))), (0, .ref 176), (1, .int (nI (s)))], [], MH C t, sl) P X
  | 0, i, C, hi, hT => by
    obtain rfl : i = 240 := by omega
    refine w_p (pc1 := 3) rfl rfl ?_
    refine w_p (pc1 := 6) (st1 := .int 240 :: _) rfl rfl ?_
    refine w_t (a := 33) (b := 9) (bN_ge_t (a := 240) (b := 240) (by omega) (by omega) (by omega)) rfl rfl ?_
    refine Wd_al (al := [(0, .ref 176), (1, .int (nI (s)))]) (sba_p [1, 2] rfl rfl) ?_
    exact H C hT
  | m + 1, i, C, hi, hT => by
    have hv : C.1 119 (240 * s + i) = C0.1 119 (240 * s + i) := by exact hT.1 119 _ (by omega)
    refine w_p (pc1 := 3) rfl rfl ?_
    refine w_p (pc1 := 6) (st1 := .int 240 :: _) rfl rfl ?_
    refine w_f (a := 33) (b := 9) (bN_ge_f (a := i) (b := 240) (by omega) (by omega) (by omega)) rfl rfl ?_
    refine w_p (pc1 := 10) rfl rfl ?_
    refine w_m0 (pc1 := 13) rfl rfl (h_gC rfl rfl rfl rfl) rfl ?_
    refine w_p (pc1 := 14) rfl rfl ?_
    refine w_p (pc1 := 15) rfl rfl ?_
    refine w_m0 (pc1 := 18) rfl rfl (h_gC rfl rfl rfl rfl) rfl ?_
    refine w_p (pc1 := 21) (st1 := .int 240 :: _) rfl rfl ?_
    refine w_p (pc1 := 22) rfl rfl ?_
    refine w_imul (pc1 := 23) (u := nI (240)) (v := nI (s)) (z := nI (240 * s)) rfl (nK_mul) rfl ?_
    refine w_p (pc1 := 24) rfl rfl ?_
    refine w_iadd (pc1 := 25) (u := nI (240 * s)) (v := nI (i)) (z := nI (240 * s + i)) rfl (nK_add) rfl ?_
    refine w_m0 (pc1 := 26) (st1 := .int (C0.1 119 (240 * s + i)) :: _) rfl rfl (n_ile (e := 240 * s + i) rfl rfl rfl (by omega) (hv)) rfl ?_
    refine w_m0 (pc1 := 27) rfl rfl (n_is (e := i) rfl rfl rfl (by omega)) rfl ?_
    refine w_iinc (pc1 := 30) (u := nI (i)) (z := nI (i + 1)) (al1 := [(2, .int (nI (i + 1))), (0, .ref 176), (1, .int (nI (s)))]) rfl rfl rfl nK_1 rfl rfl ?_
    refine w_p (pc1 := 2) rfl rfl ?_
    exact lp_278_a hs H m (i + 1) _ (by omega) (CI_s hT (by omega) rfl)
set_option maxRecDepth 100000 in
theorem lp_278_b (hs : s < 8) (H : ∀ C', CJ 116 (0) (fun j => C0.2.1 120 (1440 * s + j)) 1440 C0 C' → Wd L xs d y_278 (66, [(0, .ref 176), (1, .int (nI (s)))], [], MH C' t, sl) P X) : ∀ (m i : Nat) (C : co_T), i + m = 1440 → CJ 116 (0) (fun j => C0.2.1 120 (1440 * s + j)) i C0 C → Wd L xs d y_278 (35, [(2, .int (nI (i))), (0, .ref 176), (1, .int (nI (s)))], [], MH C t, sl) P X
  | 0, i, C, hi, hT => by
    obtain rfl : i = 1440 := by omega
    refine w_p (pc1 := 36) rfl rfl ?_
    refine w_p (pc1 := 39) (st1 := .int 1440 :: _) rfl rfl ?_
    refine w_t (a := 66) (b := 42) (bN_ge_t (a := 1440) (b := 1440) (by omega) (by omega) (by omega)) rfl rfl ?_
    refine Wd_al (al := [(0, .ref 176), (1, .int (nI (s)))]) (sba_p [1, 2] rfl rfl) ?_
    exact H C hT
  | m + 1, i, C, hi, hT => by
    have hv : C.2.1 120 (1440 * s + i) = C0.2.1 120 (1440 * s + i) := by exact hT.1 120 _ (by omega)
    refine w_p (pc1 := 36) rfl rfl ?_
    refine w_p (pc1 := 39) (st1 := .int 1440 :: _) rfl rfl ?_
    refine w_f (a := 66) (b := 42) (bN_ge_f (a := i) (b := 1440) (by omega) (by omega) (by omega)) rfl rfl ?_
    refine w_p (pc1 := 43) rfl rfl ?_
    refine w_m0 (pc1 := 46) rfl rfl (h_gC rfl rfl rfl rfl) rfl ?_
    refine w_p (pc1 := 47) rfl rfl ?_
    refine w_p (pc1 := 48) rfl rfl ?_
    refine w_m0 (pc1 := 51) rfl rfl (h_gC rfl rfl rfl rfl) rfl ?_
    refine w_p (pc1 := 54) (st1 := .int 1440 :: _) rfl rfl ?_
    refine w_p (pc1 := 55) rfl rfl ?_
    refine w_imul (pc1 := 56) (u := nI (1440)) (v := nI (s)) (z := nI (1440 * s)) rfl (nK_mul) rfl ?_
    refine w_p (pc1 := 57) rfl rfl ?_
    refine w_iadd (pc1 := 58) (u := nI (1440 * s)) (v := nI (i)) (z := nI (1440 * s + i)) rfl (nK_add) rfl ?_
    refine w_m0 (pc1 := 59) (st1 := .long (C0.2.1 120 (1440 * s + i)) :: _) rfl rfl (n_lle (e := 1440 * s + i) rfl rfl rfl (by omega) (hv)) rfl ?_
    refine w_m0 (pc1 := 60) rfl rfl (n_ls (e := i) rfl rfl rfl (by omega)) rfl ?_
    refine w_iinc (pc1 := 63) (u := nI (i)) (z := nI (i + 1)) (al1 := [(2, .int (nI (i + 1))), (0, .ref 176), (1, .int (nI (s)))]) rfl rfl rfl nK_1 rfl rfl ?_
    refine w_p (pc1 := 35) rfl rfl ?_
    exact lp_278_b hs H m (i + 1) _ (by omega) (CJ_s hT (by omega) rfl)
set_option maxRecDepth 100000 in
theorem lp_278_c (hs : s < 8) : ∀ (m i : Nat) (C : co_T), i + m = 6 → CD 117 118 (0) (fun j => C0.1 121 (6 * s + j)) (fun j => C0.1 122 (6 * s + j)) i C0 C → Wd L xs d y_278 (68, [(2, .int (nI (i))), (0, .ref 176), (1, .int (nI (s)))], [], MH C t, sl) (fun v h q => none = v ∧ (∃ C', CD 117 118 (0) (fun j => C0.1 121 (6 * s + j)) (fun j => C0.1 122 (6 * s + j)) 6 C0 C' ∧ MH C' t = h) ∧ sl = q) nX
  | 0, i, C, hi, hT => by
    obtain rfl : i = 6 := by omega
    refine w_p (pc1 := 69) rfl rfl ?_
    refine w_p (pc1 := 71) (st1 := .int 6 :: _) rfl rfl ?_
    refine w_t (a := 114) (b := 74) (bN_ge_t (a := 6) (b := 6) (by omega) (by omega) (by omega)) rfl rfl ?_
    refine w_r rfl rfl rfl (fun _ _ => rfl) rfl ?_
    exact ⟨rfl, ⟨C, hT, rfl⟩, rfl⟩
  | m + 1, i, C, hi, hT => by
    have hv : C.1 121 (6 * s + i) = C0.1 121 (6 * s + i) := by exact hT.1 121 _ (by omega)
    have hv2 : (sI C 117 (i) (C0.1 121 (6 * s + i))).1 122 (6 * s + i) = C0.1 122 (6 * s + i) := by rw [sI_1, if_neg (by omega)]; exact hT.1 122 _ (by omega)
    refine w_p (pc1 := 69) rfl rfl ?_
    refine w_p (pc1 := 71) (st1 := .int 6 :: _) rfl rfl ?_
    refine w_f (a := 114) (b := 74) (bN_ge_f (a := i) (b := 6) (by omega) (by omega) (by omega)) rfl rfl ?_
    refine w_p (pc1 := 75) rfl rfl ?_
    refine w_m0 (pc1 := 78) rfl rfl (h_gC rfl rfl rfl rfl) rfl ?_
    refine w_p (pc1 := 79) rfl rfl ?_
    refine w_p (pc1 := 80) rfl rfl ?_
    refine w_m0 (pc1 := 83) rfl rfl (h_gC rfl rfl rfl rfl) rfl ?_
    refine w_p (pc1 := 85) (st1 := .int 6 :: _) rfl rfl ?_
    refine w_p (pc1 := 86) rfl rfl ?_
    refine w_imul (pc1 := 87) (u := nI (6)) (v := nI (s)) (z := nI (6 * s)) rfl (nK_mul) rfl ?_
    refine w_p (pc1 := 88) rfl rfl ?_
    refine w_iadd (pc1 := 89) (u := nI (6 * s)) (v := nI (i)) (z := nI (6 * s + i)) rfl (nK_add) rfl ?_
    refine w_m0 (pc1 := 90) (st1 := .int (C0.1 121 (6 * s + i)) :: _) rfl rfl (n_ile (e := 6 * s + i) rfl rfl rfl (by omega) (hv)) rfl ?_
    refine w_m0 (pc1 := 91) rfl rfl (n_is (e := i) rfl rfl rfl (by omega)) rfl ?_
    refine w_p (pc1 := 92) rfl rfl ?_
    refine w_m0 (pc1 := 95) rfl rfl (h_gC rfl rfl rfl rfl) rfl ?_
    refine w_p (pc1 := 96) rfl rfl ?_
    refine w_p (pc1 := 97) rfl rfl ?_
    refine w_m0 (pc1 := 100) rfl rfl (h_gC rfl rfl rfl rfl) rfl ?_
    refine w_p (pc1 := 102) (st1 := .int 6 :: _) rfl rfl ?_
    refine w_p (pc1 := 103) rfl rfl ?_
    refine w_imul (pc1 := 104) (u := nI (6)) (v := nI (s)) (z := nI (6 * s)) rfl (nK_mul) rfl ?_
    refine w_p (pc1 := 105) rfl rfl ?_
    refine w_iadd (pc1 := 106) (u := nI (6 * s)) (v := nI (i)) (z := nI (6 * s + i)) rfl (nK_add) rfl ?_
    refine w_m0 (pc1 := 107) (st1 := .int (C0.1 122 (6 * s + i)) :: _) rfl rfl (n_ile (e := 6 * s + i) rfl rfl rfl (by omega) (hv2)) rfl ?_
    refine w_m0 (pc1 := 108) rfl rfl (n_is (e := i) rfl rfl rfl (by omega)) rfl ?_
    refine w_iinc (pc1 := 111) (u := nI (i)) (z := nI (i + 1)) (al1 := [(2, .int (nI (i + 1))), (0, .ref 176), (1, .int (nI (s)))]) rfl rfl rfl nK_1 rfl rfl ?_
    refine w_p (pc1 := 68) rfl rfl ?_
    exact lp_278_c hs m (i + 1) _ (by omega) (CD_s (by decide) hT (by omega) rfl rfl)
set_option maxRecDepth 100000 in
theorem m_278 (hs : s < 8) : Wd L xs d y_278 (0, [(0, .ref 176), (1, .int (nI (s)))], [], MH C t, sl) (fun v h q => none = v ∧ (∃ C', SLC 115 (0) (0) (0) 119 (240 * s) (1440 * s) (6 * s) C C' ∧ MH C' t = h) ∧ sl = q) nX := by
  refine w_p (pc1 := 1) (st1 := .int 0 :: _) rfl rfl ?_
  refine w_p (pc1 := 2) (al1 := [(2, .int 0), (0, .ref 176), (1, .int (nI (s)))]) rfl rfl ?_
  refine lp_278_a (C0 := C) hs (fun C1 e1 => ?_) 240 0 C rfl CI_0
  refine w_p (pc1 := 34) (st1 := .int 0 :: _) rfl rfl ?_
  refine w_p (pc1 := 35) (al1 := [(2, .int 0), (0, .ref 176), (1, .int (nI (s)))]) rfl rfl ?_
  refine lp_278_b (C0 := C1) hs (fun C2 e2 => ?_) 1440 0 C1 rfl CJ_0
  refine w_p (pc1 := 67) (st1 := .int 0 :: _) rfl rfl ?_
  refine w_p (pc1 := 68) (al1 := [(2, .int 0), (0, .ref 176), (1, .int (nI (s)))]) rfl rfl ?_
  refine Wd_q (lp_278_c (C0 := C2) hs 6 0 C2 rfl CD_0) (fun v h q hq => ?_) (fun _ _ _ e => e)
  obtain ⟨z1, ⟨C3, z2, z3⟩, z4⟩ := hq
  exact ⟨z1, ⟨C3, SLC_m (by omega) (by omega) e1 e2 z2, z3⟩, z4⟩
set_option maxRecDepth 100000 in
theorem lp_282_a (hs : s < 8) (hu : u < 8) (hne : s ≠ u) (H : ∀ C', CI 119 (240 * u) (fun j => C0.1 119 (240 * s + j)) 240 C0 C' → Wd L xs d y_282 (39, [(0, .ref 176), (1, .int (nI (s))), (2, .int (nI (u)))], [], MH C' t, sl) P X) : ∀ (m i : Nat) (C : co_T), i + m = 240 → CI 119 (240 * u) (fun j => C0.1 119 (240 * s + j)) i C0 C → Wd L xs d y_282 (2, [(3, .int (nI (i))), (0, .ref 176), (1, .int (nI (s))), (2, .int (nI (u)))], [], MH C t, sl) P X
  | 0, i, C, hi, hT => by
    obtain rfl : i = 240 := by omega
    refine w_p (pc1 := 3) rfl rfl ?_
    refine w_p (pc1 := 6) (st1 := .int 240 :: _) rfl rfl ?_
    refine w_t (a := 39) (b := 9) (bN_ge_t (a := 240) (b := 240) (by omega) (by omega) (by omega)) rfl rfl ?_
    refine Wd_al (al := [(0, .ref 176), (1, .int (nI (s))), (2, .int (nI (u)))]) (sba_p [1, 2, 3] rfl rfl) ?_
    exact H C hT
  | m + 1, i, C, hi, hT => by
    have hv : C.1 119 (240 * s + i) = C0.1 119 (240 * s + i) := by exact hT.1 119 _ (by omega)
    refine w_p (pc1 := 3) rfl rfl ?_
    refine w_p (pc1 := 6) (st1 := .int 240 :: _) rfl rfl ?_
    refine w_f (a := 39) (b := 9) (bN_ge_f (a := i) (b := 240) (by omega) (by omega) (by omega)) rfl rfl ?_
    refine w_p (pc1 := 10) rfl rfl ?_
    refine w_m0 (pc1 := 13) rfl rfl (h_gC rfl rfl rfl rfl) rfl ?_
    refine w_p (pc1 := 16) (st1 := .int 240 :: _) rfl rfl ?_
    refine w_p (pc1 := 17) rfl rfl ?_
    refine w_imul (pc1 := 18) (u := nI (240)) (v := nI (u)) (z := nI (240 * u)) rfl (nK_mul) rfl ?_
    refine w_p (pc1 := 19) rfl rfl ?_
    refine w_iadd (pc1 := 20) (u := nI (240 * u)) (v := nI (i)) (z := nI (240 * u + i)) rfl (nK_add) rfl ?_
    refine w_p (pc1 := 21) rfl rfl ?_
    refine w_m0 (pc1 := 24) rfl rfl (h_gC rfl rfl rfl rfl) rfl ?_
    refine w_p (pc1 := 27) (st1 := .int 240 :: _) rfl rfl ?_
    refine w_p (pc1 := 28) rfl rfl ?_
    refine w_imul (pc1 := 29) (u := nI (240)) (v := nI (s)) (z := nI (240 * s)) rfl (nK_mul) rfl ?_
    refine w_p (pc1 := 30) rfl rfl ?_
    refine w_iadd (pc1 := 31) (u := nI (240 * s)) (v := nI (i)) (z := nI (240 * s + i)) rfl (nK_add) rfl ?_
    refine w_m0 (pc1 := 32) (st1 := .int (C0.1 119 (240 * s + i)) :: _) rfl rfl (n_ile (e := 240 * s + i) rfl rfl rfl (by omega) (hv)) rfl ?_
    refine w_m0 (pc1 := 33) rfl rfl (n_is (e := 240 * u + i) rfl rfl rfl (by omega)) rfl ?_
    refine w_iinc (pc1 := 36) (u := nI (i)) (z := nI (i + 1)) (al1 := [(3, .int (nI (i + 1))), (0, .ref 176), (1, .int (nI (s))), (2, .int (nI (u)))]) rfl rfl rfl nK_1 rfl rfl ?_
    refine w_p (pc1 := 2) rfl rfl ?_
    exact lp_282_a hs hu hne H m (i + 1) _ (by omega) (CI_s hT (by omega) rfl)
set_option maxRecDepth 100000 in
theorem lp_282_b (hs : s < 8) (hu : u < 8) (hne : s ≠ u) (H : ∀ C', CJ 120 (1440 * u) (fun j => C0.2.1 120 (1440 * s + j)) 1440 C0 C' → Wd L xs d y_282 (78, [(0, .ref 176), (1, .int (nI (s))), (2, .int (nI (u)))], [], MH C' t, sl) P X) : ∀ (m i : Nat) (C : co_T), i + m = 1440 → CJ 120 (1440 * u) (fun j => C0.2.1 120 (1440 * s + j)) i C0 C → Wd L xs d y_282 (41, [(3, .int (nI (i))), (0, .ref 176), (1, .int (nI (s))), (2, .int (nI (u)))], [], MH C t, sl) P X
  | 0, i, C, hi, hT => by
    obtain rfl : i = 1440 := by omega
    refine w_p (pc1 := 42) rfl rfl ?_
    refine w_p (pc1 := 45) (st1 := .int 1440 :: _) rfl rfl ?_
    refine w_t (a := 78) (b := 48) (bN_ge_t (a := 1440) (b := 1440) (by omega) (by omega) (by omega)) rfl rfl ?_
    refine Wd_al (al := [(0, .ref 176), (1, .int (nI (s))), (2, .int (nI (u)))]) (sba_p [1, 2, 3] rfl rfl) ?_
    exact H C hT
  | m + 1, i, C, hi, hT => by
    have hv : C.2.1 120 (1440 * s + i) = C0.2.1 120 (1440 * s + i) := by exact hT.1 120 _ (by omega)
    refine w_p (pc1 := 42) rfl rfl ?_
    refine w_p (pc1 := 45) (st1 := .int 1440 :: _) rfl rfl ?_
    refine w_f (a := 78) (b := 48) (bN_ge_f (a := i) (b := 1440) (by omega) (by omega) (by omega)) rfl rfl ?_
    refine w_p (pc1 := 49) rfl rfl ?_
    refine w_m0 (pc1 := 52) rfl rfl (h_gC rfl rfl rfl rfl) rfl ?_
    refine w_p (pc1 := 55) (st1 := .int 1440 :: _) rfl rfl ?_
    refine w_p (pc1 := 56) rfl rfl ?_
    refine w_imul (pc1 := 57) (u := nI (1440)) (v := nI (u)) (z := nI (1440 * u)) rfl (nK_mul) rfl ?_
    refine w_p (pc1 := 58) rfl rfl ?_
    refine w_iadd (pc1 := 59) (u := nI (1440 * u)) (v := nI (i)) (z := nI (1440 * u + i)) rfl (nK_add) rfl ?_
    refine w_p (pc1 := 60) rfl rfl ?_
    refine w_m0 (pc1 := 63) rfl rfl (h_gC rfl rfl rfl rfl) rfl ?_
    refine w_p (pc1 := 66) (st1 := .int 1440 :: _) rfl rfl ?_
    refine w_p (pc1 := 67) rfl rfl ?_
    refine w_imul (pc1 := 68) (u := nI (1440)) (v := nI (s)) (z := nI (1440 * s)) rfl (nK_mul) rfl ?_
    refine w_p (pc1 := 69) rfl rfl ?_
    refine w_iadd (pc1 := 70) (u := nI (1440 * s)) (v := nI (i)) (z := nI (1440 * s + i)) rfl (nK_add) rfl ?_
    refine w_m0 (pc1 := 71) (st1 := .long (C0.2.1 120 (1440 * s + i)) :: _) rfl rfl (n_lle (e := 1440 * s + i) rfl rfl rfl (by omega) (hv)) rfl ?_
    refine w_m0 (pc1 := 72) rfl rfl (n_ls (e := 1440 * u + i) rfl rfl rfl (by omega)) rfl ?_
    refine w_iinc (pc1 := 75) (u := nI (i)) (z := nI (i + 1)) (al1 := [(3, .int (nI (i + 1))), (0, .ref 176), (1, .int (nI (s))), (2, .int (nI (u)))]) rfl rfl rfl nK_1 rfl rfl ?_
    refine w_p (pc1 := 41) rfl rfl ?_
    exact lp_282_b hs hu hne H m (i + 1) _ (by omega) (CJ_s hT (by omega) rfl)
set_option maxRecDepth 100000 in
theorem lp_282_c (hs : s < 8) (hu : u < 8) (hne : s ≠ u) : ∀ (m i : Nat) (C : co_T), i + m = 6 → CD 121 122 (6 * u) (fun j => C0.1 121 (6 * s + j)) (fun j => C0.1 122 (6 * s + j)) i C0 C → Wd L xs d y_282 (80, [(3, .int (nI (i))), (0, .ref 176), (1, .int (nI (s))), (2, .int (nI (u)))], [], MH C t, sl) (fun v h q => none = v ∧ (∃ C', CD 121 122 (6 * u) (fun j => C0.1 121 (6 * s + j)) (fun j => C0.1 122 (6 * s + j)) 6 C0 C' ∧ MH C' t = h) ∧ sl = q) nX
  | 0, i, C, hi, hT => by
    obtain rfl : i = 6 := by omega
    refine w_p (pc1 := 81) rfl rfl ?_
    refine w_p (pc1 := 83) (st1 := .int 6 :: _) rfl rfl ?_
    refine w_t (a := 136) (b := 86) (bN_ge_t (a := 6) (b := 6) (by omega) (by omega) (by omega)) rfl rfl ?_
    refine w_r rfl rfl rfl (fun _ _ => rfl) rfl ?_
    exact ⟨rfl, ⟨C, hT, rfl⟩, rfl⟩
  | m + 1, i, C, hi, hT => by
    have hv : C.1 121 (6 * s + i) = C0.1 121 (6 * s + i) := by exact hT.1 121 _ (by omega)
    have hv2 : (sI C 121 (6 * u + i) (C0.1 121 (6 * s + i))).1 122 (6 * s + i) = C0.1 122 (6 * s + i) := by rw [sI_1, if_neg (by omega)]; exact hT.1 122 _ (by omega)
    refine w_p (pc1 := 81) rfl rfl ?_
    refine w_p (pc1 := 83) (st1 := .int 6 :: _) rfl rfl ?_
    refine w_f (a := 136) (b := 86) (bN_ge_f (a := i) (b := 6) (by omega) (by omega) (by omega)) rfl rfl ?_
    refine w_p (pc1 := 87) rfl rfl ?_
    refine w_m0 (pc1 := 90) rfl rfl (h_gC rfl rfl rfl rfl) rfl ?_
    refine w_p (pc1 := 92) (st1 := .int 6 :: _) rfl rfl ?_
    refine w_p (pc1 := 93) rfl rfl ?_
    refine w_imul (pc1 := 94) (u := nI (6)) (v := nI (u)) (z := nI (6 * u)) rfl (nK_mul) rfl ?_
    refine w_p (pc1 := 95) rfl rfl ?_
    refine w_iadd (pc1 := 96) (u := nI (6 * u)) (v := nI (i)) (z := nI (6 * u + i)) rfl (nK_add) rfl ?_
    refine w_p (pc1 := 97) rfl rfl ?_
    refine w_m0 (pc1 := 100) rfl rfl (h_gC rfl rfl rfl rfl) rfl ?_
    refine w_p (pc1 := 102) (st1 := .int 6 :: _) rfl rfl ?_
    refine w_p (pc1 := 103) rfl rfl ?_
    refine w_imul (pc1 := 104) (u := nI (6)) (v := nI (s)) (z := nI (6 * s)) rfl (nK_mul) rfl ?_
    refine w_p (pc1 := 105) rfl rfl ?_
    refine w_iadd (pc1 := 106) (u := nI (6 * s)) (v := nI (i)) (z := nI (6 * s + i)) rfl (nK_add) rfl ?_
    refine w_m0 (pc1 := 107) (st1 := .int (C0.1 121 (6 * s + i)) :: _) rfl rfl (n_ile (e := 6 * s + i) rfl rfl rfl (by omega) (hv)) rfl ?_
    refine w_m0 (pc1 := 108) rfl rfl (n_is (e := 6 * u + i) rfl rfl rfl (by omega)) rfl ?_
    refine w_p (pc1 := 109) rfl rfl ?_
    refine w_m0 (pc1 := 112) rfl rfl (h_gC rfl rfl rfl rfl) rfl ?_
    refine w_p (pc1 := 114) (st1 := .int 6 :: _) rfl rfl ?_
    refine w_p (pc1 := 115) rfl rfl ?_
    refine w_imul (pc1 := 116) (u := nI (6)) (v := nI (u)) (z := nI (6 * u)) rfl (nK_mul) rfl ?_
    refine w_p (pc1 := 117) rfl rfl ?_
    refine w_iadd (pc1 := 118) (u := nI (6 * u)) (v := nI (i)) (z := nI (6 * u + i)) rfl (nK_add) rfl ?_
    refine w_p (pc1 := 119) rfl rfl ?_
    refine w_m0 (pc1 := 122) rfl rfl (h_gC rfl rfl rfl rfl) rfl ?_
    refine w_p (pc1 := 124) (st1 := .int 6 :: _) rfl rfl ?_
    refine w_p (pc1 := 125) rfl rfl ?_
    refine w_imul (pc1 := 126) (u := nI (6)) (v := nI (s)) (z := nI (6 * s)) rfl (nK_mul) rfl ?_
    refine w_p (pc1 := 127) rfl rfl ?_
    refine w_iadd (pc1 := 128) (u := nI (6 * s)) (v := nI (i)) (z := nI (6 * s + i)) rfl (nK_add) rfl ?_
    refine w_m0 (pc1 := 129) (st1 := .int (C0.1 122 (6 * s + i)) :: _) rfl rfl (n_ile (e := 6 * s + i) rfl rfl rfl (by omega) (hv2)) rfl ?_
    refine w_m0 (pc1 := 130) rfl rfl (n_is (e := 6 * u + i) rfl rfl rfl (by omega)) rfl ?_
    refine w_iinc (pc1 := 133) (u := nI (i)) (z := nI (i + 1)) (al1 := [(3, .int (nI (i + 1))), (0, .ref 176), (1, .int (nI (s))), (2, .int (nI (u)))]) rfl rfl rfl nK_1 rfl rfl ?_
    refine w_p (pc1 := 80) rfl rfl ?_
    exact lp_282_c hs hu hne m (i + 1) _ (by omega) (CD_s (by decide) hT (by omega) rfl rfl)
set_option maxRecDepth 100000 in
theorem m_282 (hs : s < 8) (hu : u < 8) (hne : s ≠ u) : Wd L xs d y_282 (0, [(0, .ref 176), (1, .int (nI (s))), (2, .int (nI (u)))], [], MH C t, sl) (fun v h q => none = v ∧ (∃ C', SLC 119 (240 * u) (1440 * u) (6 * u) 119 (240 * s) (1440 * s) (6 * s) C C' ∧ MH C' t = h) ∧ sl = q) nX := by
  refine w_p (pc1 := 1) (st1 := .int 0 :: _) rfl rfl ?_
  refine w_p (pc1 := 2) (al1 := [(3, .int 0), (0, .ref 176), (1, .int (nI (s))), (2, .int (nI (u)))]) rfl rfl ?_
  refine lp_282_a (C0 := C) hs hu hne (fun C1 e1 => ?_) 240 0 C rfl CI_0
  refine w_p (pc1 := 40) (st1 := .int 0 :: _) rfl rfl ?_
  refine w_p (pc1 := 41) (al1 := [(3, .int 0), (0, .ref 176), (1, .int (nI (s))), (2, .int (nI (u)))]) rfl rfl ?_
  refine lp_282_b (C0 := C1) hs hu hne (fun C2 e2 => ?_) 1440 0 C1 rfl CJ_0
  refine w_p (pc1 := 79) (st1 := .int 0 :: _) rfl rfl ?_
  refine w_p (pc1 := 80) (al1 := [(3, .int 0), (0, .ref 176), (1, .int (nI (s))), (2, .int (nI (u)))]) rfl rfl ?_
  refine Wd_q (lp_282_c (C0 := C2) hs hu hne 6 0 C2 rfl CD_0) (fun v h q hq => ?_) (fun _ _ _ e => e)
  obtain ⟨z1, ⟨C3, z2, z3⟩, z4⟩ := hq
  exact ⟨z1, ⟨C3, SLC_m (by omega) (by omega) e1 e2 z2, z3⟩, z4⟩
end KEP
