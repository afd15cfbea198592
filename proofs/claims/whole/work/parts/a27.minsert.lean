
/-! THE OTHER SIDE'S ENGINE: a step of an insert, of an update begins -/
def NST (C0 C' : co_T) (F u D v : Nat) (kd tb i : Int32) (w2 w3 : Nat) (N O : rw_F) : Prop := SFM C' F kd tb i 0 0 ∧ (C'.1 76 93 = nI (u + 1) ∧ C'.1 76 94 = nI (D + 1) ∧ C'.1 76 95 = nI (max v (D + 1)) ∧ C'.1 76 75 = nI (F + 1) ∧ C'.1 76 89 = 0 ∧ C'.1 76 74 = 0) ∧ (bfM C' 136 F w2 N ∧ bfM C' 137 F w3 O) ∧ frQ F C0 C' ∧ frV C0 C'
def EDD (C0 C' : co_T) (F : Nat) (z : Int32) : Prop := C'.1 76 89 = z ∧ (C'.1 76 93 = C0.1 76 93 ∧ C'.1 76 95 = C0.1 76 95 ∧ ∃ y, C'.1 76 74 = ck y) ∧ frQ F C0 C' ∧ frV C0 C'
/-! how the beginning of a step ends: not worked out, too much, begun -/
def BSP (C0 : co_T) (t : ab_H) (F u D v sl : Nat) (kd tb i : Int32) (w2 w3 : Nat) (O : rw_F) (x : Option rw_F) : Option Value → ab_H → Nat → Prop := fun v0 h m => none = v0 ∧ (∃ C', ((x = none ∧ EDD C0 C' F 4) ∨ (∃ g, x = some g ∧ (((300 ≤ u ∨ 12 ≤ D) ∧ EDD C0 C' F 5) ∨ (u < 300 ∧ D < 12 ∧ NST C0 C' F u D v kd tb i w2 w3 g O)))) ∧ MH C' t = h) ∧ sl = m
set_option maxRecDepth 100000 in
theorem frQ_89 {F : Nat} {C : co_T} {z : Int32} : frQ F C (sI C 76 89 z) := ⟨fun k j _ h _ _ => by rw [sI_1, if_neg (by omega)], fun _ _ _ _ _ => rfl, rfl⟩
set_option maxRecDepth 100000 in
theorem frV_89 {C : co_T} {z : Int32} {j : Nat} : frV C (sI C 76 j z) := ⟨fun q => by rw [sI_1, if_neg (by omega)], fun q => by rw [sI_1, if_neg (by omega)], fun q => by rw [sI_1, if_neg (by omega)], fun _ => rfl⟩
set_option maxRecDepth 100000 in
theorem EDD_S {C0 C : co_T} {F : Nat} {z : Int32} (f : frS C0 C) (hy : ∃ y, C.1 76 74 = ck y) : EDD C0 (sI C 76 89 z) F z := ⟨rfl, ⟨f.1 76 93 (by omega), f.1 76 95 (by omega), hy⟩, frQ_t (frS_Q f) frQ_89, frV_t (frS_V f) frV_89⟩
set_option maxRecDepth 100000 in
theorem SFM_O {C C' : co_T} {f F : Nat} {kd tb i ph nx : Int32} (h : frO F C C') (s : SFM C f kd tb i ph nx) : SFM C' f kd tb i ph nx := ⟨(h.1 125 f).trans s.1, (h.1 128 f).trans s.2.1, (h.1 129 f).trans s.2.2.1, (h.1 130 f).trans s.2.2.2.1, (h.1 131 f).trans s.2.2.2.2.1, (h.1 132 f).trans s.2.2.2.2.2⟩
set_option maxRecDepth 100000 in
theorem CNT_O {C1 C C' : co_T} {F u D v : Nat} (h : frO F C C') (hc : C.1 76 93 = nI (u + 1) ∧ C.1 76 94 = nI (D + 1) ∧ C.1 76 95 = nI (max v (D + 1)) ∧ C.1 76 75 = nI (F + 1) ∧ C.1 76 89 = C1.1 76 89 ∧ C.1 76 74 = C1.1 76 74) (g1 : C1.1 76 89 = 0) (g2 : C1.1 76 74 = 0) : C'.1 76 93 = nI (u + 1) ∧ C'.1 76 94 = nI (D + 1) ∧ C'.1 76 95 = nI (max v (D + 1)) ∧ C'.1 76 75 = nI (F + 1) ∧ C'.1 76 89 = 0 ∧ C'.1 76 74 = 0 := ⟨(h.1 76 93).trans hc.1, (h.1 76 94).trans hc.2.1, (h.1 76 95).trans hc.2.2.1, (h.1 76 75).trans hc.2.2.2.1, (h.1 76 89).trans (hc.2.2.2.2.1.trans g1), (h.1 76 74).trans (hc.2.2.2.2.2.trans g2)⟩
section ME4
variable {L : Nat} {xs : Nat → Int32} {C : co_T} {t : ab_H} {d sl b f p n k w2 w3 F u D v : Nat} {S : st_T} {N O : rw_F} {r : ro_T} {σ : es_T}
set_option maxRecDepth 100000 in
theorem lp_259f {C0 : co_T} {g : rw_F} {w : Nat} (hF : F < 40) (hb : b < 6) (hw6 : w ≤ 6) (hw : C0.1 80 b = nI w) (hg : ∀ c, c < w → C0.2.1 138 c = e_V (g c)) : ∀ (m c : Nat) (C : co_T), c + m = 6 → frO F C0 C → (∀ j, j < c → j < w → C.2.1 136 (6 * F + j) = e_V (g j)) → Wd L xs (d + 4) y_259 (163, [(5, .int (nI (c))), (4, .int (nI (F))), (0, .ref 176), (1, .int (nI (p))), (2, .int (nI (b))), (3, .int (nI (f)))], [], MH C t, sl) (fun v h m => none = v ∧ (∃ C', (frO F C0 C' ∧ bfM C' 136 F w g) ∧ MH C' t = h) ∧ sl = m) nX
  | 0, c, C, hc, hO, hT => by
    obtain rfl : c = 6 := by omega
    refine w_p (pc1 := 165) rfl rfl ?_
    refine w_p (pc1 := 167) (st1 := .int 6 :: _) rfl rfl ?_
    refine w_t (a := 235) (b := 170) (bN_ge_t (a := 6) (b := 6) (by omega) (by omega) (by omega)) rfl rfl ?_
    refine w_r rfl rfl rfl (fun _ _ => rfl) rfl ?_
    exact ⟨rfl, ⟨C, ⟨hO, fun j hj => hT j (by omega) hj⟩, rfl⟩, rfl⟩
  | m + 1, c, C, hc, hO, hT => by
    have hw2 : C.1 80 b = nI w := (hO.1 80 b).trans hw
    have ih := fun x H => lp_259f (C0 := C0) (g := g) hF hb hw6 hw hg m (c + 1) (sJ (sJ C 136 (6 * F + c) x) 137 (6 * F + c) (-9223372036854775808)) (by omega) (frO_t hO (frO_t (frO_J (by omega)) (frO_J (by omega)))) H
    by_cases hcw : c < w
    · have hv : C.2.1 138 c = e_V (g c) := (hO.2.1 138 c (by omega)).trans (hg c hcw)
      refine w_p (pc1 := 165) rfl rfl ?_
      refine w_p (pc1 := 167) (st1 := .int 6 :: _) rfl rfl ?_
      refine w_f (a := 235) (b := 170) (bN_ge_f (a := c) (b := 6) (by omega) (by omega) (by omega)) rfl rfl ?_
      refine w_p (pc1 := 172) rfl rfl ?_
      refine w_p (pc1 := 173) (st1 := .int (-1) :: _) rfl rfl ?_
      refine w_f (a := 235) (b := 176) (cb_eq_f (by exact nK_m1 (by omega))) rfl rfl ?_
      refine w_p (pc1 := 177) rfl rfl ?_
      refine w_m0 (pc1 := 180) rfl rfl (h_gC rfl rfl rfl rfl) rfl ?_
      refine w_p (pc1 := 182) (st1 := .int 6 :: _) rfl rfl ?_
      refine w_p (pc1 := 184) rfl rfl ?_
      refine w_imul (pc1 := 185) (u := nI (6)) (v := nI (F)) (z := nI (6 * F)) rfl (nK_mul) rfl ?_
      refine w_p (pc1 := 187) rfl rfl ?_
      refine w_iadd (pc1 := 188) (u := nI (6 * F)) (v := nI (c)) (z := nI (6 * F + c)) rfl (nK_add) rfl ?_
      refine w_p (pc1 := 190) rfl rfl ?_
      refine w_p (pc1 := 191) rfl rfl ?_
      refine w_m0 (pc1 := 194) rfl rfl (h_gC rfl rfl rfl rfl) rfl ?_
      refine w_p (pc1 := 195) rfl rfl ?_
      refine w_m0 (pc1 := 196) (st1 := .int (nI (w)) :: _) rfl rfl (n_ile (e := b) rfl rfl rfl (by omega) (hw2)) rfl ?_
      refine w_f (a := 209) (b := 199) (bN_ge_f (a := c) (b := w) (by omega) (by omega) (by omega)) rfl rfl ?_
      refine w_p (pc1 := 200) rfl rfl ?_
      refine w_m0 (pc1 := 203) rfl rfl (h_gC rfl rfl rfl rfl) rfl ?_
      refine w_p (pc1 := 205) rfl rfl ?_
      refine w_m0 (pc1 := 206) (st1 := .long (e_V (g c)) :: _) rfl rfl (n_lle (e := c) rfl rfl rfl (by omega) (hv)) rfl ?_
      refine w_p (pc1 := 212) rfl rfl ?_
      refine w_m0 (pc1 := 213) rfl rfl (n_ls (e := 6 * F + c) rfl rfl rfl (by omega)) rfl ?_
      refine w_p (pc1 := 214) rfl rfl ?_
      refine w_m0 (pc1 := 217) rfl rfl (h_gC rfl rfl rfl rfl) rfl ?_
      refine w_p (pc1 := 219) (st1 := .int 6 :: _) rfl rfl ?_
      refine w_p (pc1 := 221) rfl rfl ?_
      refine w_imul (pc1 := 222) (u := nI (6)) (v := nI (F)) (z := nI (6 * F)) rfl (nK_mul) rfl ?_
      refine w_p (pc1 := 224) rfl rfl ?_
      refine w_iadd (pc1 := 225) (u := nI (6 * F)) (v := nI (c)) (z := nI (6 * F + c)) rfl (nK_add) rfl ?_
      refine w_m0 (pc1 := 228) (st1 := .long (-9223372036854775808) :: _) rfl rfl rfl rfl ?_
      refine w_m0 (pc1 := 229) rfl rfl (n_ls (e := 6 * F + c) rfl rfl rfl (by omega)) rfl ?_
      refine w_iinc (pc1 := 232) (u := nI (c)) (z := nI (c + 1)) (al1 := [(5, .int (nI (c + 1))), (4, .int (nI (F))), (0, .ref 176), (1, .int (nI (p))), (2, .int (nI (b))), (3, .int (nI (f)))]) rfl rfl rfl nK_1 rfl rfl ?_
      refine w_p (pc1 := 163) rfl rfl ?_
      refine ih (e_V (g c)) (fun j hj hjw => ?_)
      rw [sJ_2, if_neg (by omega), sJ_2]
      by_cases e : j = c
      · rw [if_pos ⟨rfl, by omega⟩, e]
      · rw [if_neg (by omega)]
        exact hT j (by omega) hjw
    · skip
      refine w_p (pc1 := 165) rfl rfl ?_
      refine w_p (pc1 := 167) (st1 := .int 6 :: _) rfl rfl ?_
      refine w_f (a := 235) (b := 170) (bN_ge_f (a := c) (b := 6) (by omega) (by omega) (by omega)) rfl rfl ?_
      refine w_p (pc1 := 172) rfl rfl ?_
      refine w_p (pc1 := 173) (st1 := .int (-1) :: _) rfl rfl ?_
      refine w_f (a := 235) (b := 176) (cb_eq_f (by exact nK_m1 (by omega))) rfl rfl ?_
      refine w_p (pc1 := 177) rfl rfl ?_
      refine w_m0 (pc1 := 180) rfl rfl (h_gC rfl rfl rfl rfl) rfl ?_
      refine w_p (pc1 := 182) (st1 := .int 6 :: _) rfl rfl ?_
      refine w_p (pc1 := 184) rfl rfl ?_
      refine w_imul (pc1 := 185) (u := nI (6)) (v := nI (F)) (z := nI (6 * F)) rfl (nK_mul) rfl ?_
      refine w_p (pc1 := 187) rfl rfl ?_
      refine w_iadd (pc1 := 188) (u := nI (6 * F)) (v := nI (c)) (z := nI (6 * F + c)) rfl (nK_add) rfl ?_
      refine w_p (pc1 := 190) rfl rfl ?_
      refine w_p (pc1 := 191) rfl rfl ?_
      refine w_m0 (pc1 := 194) rfl rfl (h_gC rfl rfl rfl rfl) rfl ?_
      refine w_p (pc1 := 195) rfl rfl ?_
      refine w_m0 (pc1 := 196) (st1 := .int (nI (w)) :: _) rfl rfl (n_ile (e := b) rfl rfl rfl (by omega) (hw2)) rfl ?_
      refine w_t (a := 209) (b := 199) (bN_ge_t (a := c) (b := w) (by omega) (by omega) (by omega)) rfl rfl ?_
      refine w_m0 (pc1 := 212) (st1 := .long (-9223372036854775808) :: _) rfl rfl rfl rfl ?_
      refine w_m0 (pc1 := 213) rfl rfl (n_ls (e := 6 * F + c) rfl rfl rfl (by omega)) rfl ?_
      refine w_p (pc1 := 214) rfl rfl ?_
      refine w_m0 (pc1 := 217) rfl rfl (h_gC rfl rfl rfl rfl) rfl ?_
      refine w_p (pc1 := 219) (st1 := .int 6 :: _) rfl rfl ?_
      refine w_p (pc1 := 221) rfl rfl ?_
      refine w_imul (pc1 := 222) (u := nI (6)) (v := nI (F)) (z := nI (6 * F)) rfl (nK_mul) rfl ?_
      refine w_p (pc1 := 224) rfl rfl ?_
      refine w_iadd (pc1 := 225) (u := nI (6 * F)) (v := nI (c)) (z := nI (6 * F + c)) rfl (nK_add) rfl ?_
      refine w_m0 (pc1 := 228) (st1 := .long (-9223372036854775808) :: _) rfl rfl rfl rfl ?_
      refine w_m0 (pc1 := 229) rfl rfl (n_ls (e := 6 * F + c) rfl rfl rfl (by omega)) rfl ?_
      refine w_iinc (pc1 := 232) (u := nI (c)) (z := nI (c + 1)) (al1 := [(5, .int (nI (c + 1))), (4, .int (nI (F))), (0, .ref 176), (1, .int (nI (p))), (2, .int (nI (b))), (3, .int (nI (f)))]) rfl rfl rfl nK_1 rfl rfl ?_
      refine w_p (pc1 := 163) rfl rfl ?_
      refine ih (-9223372036854775808) (fun j hj hjw => ?_)
      rw [sJ_2, if_neg (by omega), sJ_2, if_neg (by omega)]
      exact hT j (by omega) hjw
set_option maxRecDepth 100000 in
theorem m_259 {a : ac_T} (K : MSt C S) (E : MEn C (sWd S) σ D F) (ho : okSt S) (hF : F < 40) (hb : b < 6) (hp : p ≤ 40) (A : ACM C p a) (hk0 : aKd a = 0) (hl : (aSs a).length = sWd S b) (hpos : 0 < sWd S b) (hok : ∀ s, s ∈ aSs a → okS 0 w2 w3 s) (he : envM C 0 f 0 w2 w3 noF N O) : Wd L xs (d + 4) y_259 (0, [(0, .ref 176), (1, .int (nI (p))), (2, .int (nI (b))), (3, .int (nI (f)))], [], MH C t, sl) (BSP C t F σ.2.1 D σ.2.2 sl 0 (nI b) 0 (sWd S b) 0 noF (insV (sDf S b) N O noF 0 (aSs a))) nX := by
  obtain ⟨hW, hnx, hX, hDp, hFr, h89, h74⟩ := E
  obtain ⟨a1, a2, a3⟩ := A.2.2.1 hk0
  have hw6 := ho.1 b hb
  refine w_p (pc1 := 1) rfl rfl ?_
  refine w_p (pc1 := 2) (st1 := .int 0 :: _) rfl rfl ?_
  refine w_m0 (pc1 := 5) rfl rfl (h_pI (j := 73) rfl rfl rfl rfl rfl rfl rfl ⟨rfl, rfl⟩ rfl) rfl ?_
  refine w_p (pc1 := 6) (st1 := .int 0 :: _) rfl rfl ?_
  refine w_p (pc1 := 8) (al1 := [(4, .int 0), (0, .ref 176), (1, .int (nI (p))), (2, .int (nI (b))), (3, .int (nI (f)))]) rfl rfl ?_
  have f0 : frS C (sI C 76 73 0) := frS_I
  refine lp_259o (C0 := C) (V0 := insV (sDf S b) N O noF 0 (aSs a)) (m := sWd S b) (df := sDf S b) (w2 := w2) (w3 := w3) (N := N) (O := O) hp a2 hb hw6 (K.1 b hb).2 a1 he (fun C1 g e1 e2 e3 e4 => ?_) (fun C1 e1 e2 e3 => ?_) (aSs a) 0 0 (sI C 76 73 0) false noF (Nat.zero_add _) (by omega) (itM_S f0 a3) hok ⟨rfl, trivial⟩ h74 f0 (fun _ => ⟨fun c hc => absurd hc (by omega), rfl⟩) (fun z => by cases z)
  · have g93 : C1.1 76 93 = nI σ.2.1 := (e4.1 76 93 (by omega)).trans hX.1
    have g94 : C1.1 76 94 = nI D := (e4.1 76 94 (by omega)).trans hDp.1
    have g95 : C1.1 76 95 = nI σ.2.2 := (e4.1 76 95 (by omega)).trans hX.2.2.1
    have g75 : C1.1 76 75 = nI F := (e4.1 76 75 (by omega)).trans hFr.1
    have g89 : C1.1 76 89 = 0 := (e4.1 76 89 (by omega)).trans h89
    by_cases hx : 300 ≤ σ.2.1 ∨ 12 ≤ D
    · skip
      refine w_p (pc1 := 139) rfl rfl ?_
      refine w_m0 (pc1 := 142) (st1 := .int 0 :: _) rfl rfl (h_gIe (j := 74) rfl rfl rfl rfl rfl (e3)) rfl ?_
      refine w_t (a := 151) (b := 145) rfl rfl rfl ?_
      refine w_p (pc1 := 152) rfl rfl ?_
      refine w_p (pc1 := 153) (st1 := .int 0 :: _) rfl rfl ?_
      refine w_p (pc1 := 154) rfl rfl ?_
      refine w_p (pc1 := 155) (st1 := .int 0 :: _) rfl rfl ?_
      refine w_je (pc1 := 158) (vs := [.ref 176, .int 0, .int (nI (b)), .int 0]) (rest := []) (st1 := [.int (-1)]) (m_260x (d := d + 2) (sl := 0) g93 hX.2.1 g94 hDp.2 g89 hx) rfl rfl rfl (fun _ _ => rfl) rfl (by exact cl_v my_260 rfl rfl rfl (Nat.le_of_ble_eq_true rfl) rfl (MH_obj rfl rfl) rfl (by decide) rfl rfl) (by rfl) (Nat.le_of_ble_eq_true rfl) (Nat.le_of_ble_eq_true rfl) rfl (by rfl) ?_
      refine w_p (pc1 := 160) (al1 := [(4, .int (-1)), (0, .ref 176), (1, .int (nI (p))), (2, .int (nI (b))), (3, .int (nI (f)))]) rfl rfl ?_
      refine w_p (pc1 := 161) (st1 := .int 0 :: _) rfl rfl ?_
      refine w_p (pc1 := 163) (al1 := [(5, .int 0), (4, .int (-1)), (0, .ref 176), (1, .int (nI (p))), (2, .int (nI (b))), (3, .int (nI (f)))]) rfl rfl ?_
      refine w_p (pc1 := 165) rfl rfl ?_
      refine w_p (pc1 := 167) (st1 := .int 6 :: _) rfl rfl ?_
      refine w_f (a := 235) (b := 170) rfl rfl rfl ?_
      refine w_p (pc1 := 172) rfl rfl ?_
      refine w_p (pc1 := 173) (st1 := .int (-1) :: _) rfl rfl ?_
      refine w_t (a := 235) (b := 176) rfl rfl rfl ?_
      refine w_r rfl rfl rfl (fun _ _ => rfl) rfl ?_
      exact ⟨rfl, ⟨_, Or.inr ⟨g, e1, Or.inl ⟨hx, EDD_S e4 ⟨false, e3⟩⟩⟩, rfl⟩, rfl⟩
    · have hbs := m_260 (L := L) (xs := xs) (t := t) (d := d + 2) (sl := 0) (kd := 0) (tb := nI b) (i := 0) g93 (by omega) g94 (by omega) g95 hX.2.2.2 g75 hF
      have fQ := bs_Q (C := C1) (u := σ.2.1) (D := D) (v := σ.2.2) (f := F) (kd := 0) (tb := nI b) (i := 0)
      have hw1 : (bsC C1 σ.2.1 D σ.2.2 F 0 (nI b) 0).1 80 b = nI (sWd S b) := (fQ.1 80 b (by omega) (by omega) (by omega) (by omega)).trans ((e4.1 80 b (by omega)).trans ((K.1 b hb).1 hpos))
      refine w_p (pc1 := 139) rfl rfl ?_
      refine w_m0 (pc1 := 142) (st1 := .int 0 :: _) rfl rfl (h_gIe (j := 74) rfl rfl rfl rfl rfl (e3)) rfl ?_
      refine w_t (a := 151) (b := 145) rfl rfl rfl ?_
      refine w_p (pc1 := 152) rfl rfl ?_
      refine w_p (pc1 := 153) (st1 := .int 0 :: _) rfl rfl ?_
      refine w_p (pc1 := 154) rfl rfl ?_
      refine w_p (pc1 := 155) (st1 := .int 0 :: _) rfl rfl ?_
      refine w_je (pc1 := 158) (vs := [.ref 176, .int 0, .int (nI (b)), .int 0]) (rest := []) (st1 := [.int (nI (F))]) (hbs) rfl rfl rfl (fun _ _ => rfl) rfl (by exact cl_v my_260 rfl rfl rfl (Nat.le_of_ble_eq_true rfl) rfl (MH_obj rfl rfl) rfl (by decide) rfl rfl) (by rfl) (Nat.le_of_ble_eq_true rfl) (Nat.le_of_ble_eq_true rfl) rfl (by rfl) ?_
      refine w_p (pc1 := 160) (al1 := [(4, .int (nI (F))), (0, .ref 176), (1, .int (nI (p))), (2, .int (nI (b))), (3, .int (nI (f)))]) rfl rfl ?_
      refine w_p (pc1 := 161) (st1 := .int 0 :: _) rfl rfl ?_
      refine w_p (pc1 := 163) (al1 := [(5, .int 0), (4, .int (nI (F))), (0, .ref 176), (1, .int (nI (p))), (2, .int (nI (b))), (3, .int (nI (f)))]) rfl rfl ?_
      refine Wd_q (lp_259f (C0 := bsC C1 σ.2.1 D σ.2.2 F 0 (nI b) 0) (g := g) hF hb hw6 hw1 e2 6 0 _ rfl frO_r (fun j hj => absurd hj (by omega))) (fun v0 h m hq => ?_) (fun _ _ _ e => e)
      obtain ⟨q1, ⟨C2, ⟨q2, q3⟩, q4⟩, q5⟩ := hq
      have hc := bs_C (C := C1) (u := σ.2.1) (D := D) (v := σ.2.2) (f := F) (kd := 0) (tb := nI b) (i := 0)
      have hs := bs_S (C := C1) (u := σ.2.1) (D := D) (v := σ.2.2) (f := F) (kd := 0) (tb := nI b) (i := 0)
      exact ⟨q1, ⟨C2, Or.inr ⟨g, e1, Or.inr ⟨by omega, by omega, SFM_O q2 hs, CNT_O q2 hc g89 e3, ⟨q3, fun c hc => absurd hc (by omega)⟩, frQ_t (frS_Q e4) (frQ_t fQ (frO_Q q2)), frV_t (frS_V e4) (frV_t bs_V (frO_V q2))⟩⟩, q4⟩, q5⟩
  · have g89 : C1.1 76 89 = 0 := (e3.1 76 89 (by omega)).trans h89
    refine w_p (pc1 := 139) rfl rfl ?_
    refine w_m0 (pc1 := 142) (st1 := .int 1 :: _) rfl rfl (h_gIe (j := 74) rfl rfl rfl rfl rfl (e2)) rfl ?_
    refine w_f (a := 151) (b := 145) rfl rfl rfl ?_
    refine w_p (pc1 := 146) rfl rfl ?_
    refine w_p (pc1 := 147) (st1 := .int 4 :: _) rfl rfl ?_
    refine w_je (pc1 := 150) (vs := [.ref 176, .int 4]) (rest := []) (st1 := []) (m_256 (d := d + 3) (sl := 0) g89) rfl rfl rfl (fun _ _ => rfl) rfl (by exact cl_v my_256 rfl rfl rfl (Nat.le_of_ble_eq_true rfl) rfl (MH_obj rfl rfl) rfl (by decide) rfl rfl) (by rfl) (Nat.le_of_ble_eq_true rfl) (Nat.le_of_ble_eq_true rfl) rfl (by rfl) ?_
    refine w_r rfl rfl rfl (fun _ _ => rfl) rfl ?_
    exact ⟨rfl, ⟨_, Or.inl ⟨e1, EDD_S e3 ⟨true, e2⟩⟩, rfl⟩, rfl⟩
end ME4
