
/-! THE OTHER SIDE'S ENGINE: a change's frame -/
def bcC (C : co_T) (F p row : Nat) : co_T := sI (sI (sI (sI (sI (sI C 76 75 (nI (F + 1))) 125 F 0) 126 F (nI p)) 127 F (nI row)) 134 F 0) 135 F 0
def BCQ (C0 : co_T) (t : ab_H) (F p row sl : Nat) (x : Option (List Int32)) : Option Value → ab_H → Nat → Prop := fun v0 h m => none = v0 ∧ (∃ C', ((x = none ∧ EDD C0 C' F 4) ∨ (∃ is, x = some is ∧ CFM C' F p row (nI is.length) 0 ∧ (is.length ≤ 40 ∧ idsM C' F is) ∧ (C'.1 76 75 = nI (F + 1) ∧ C'.1 76 93 = C0.1 76 93 ∧ C'.1 76 94 = C0.1 76 94 ∧ C'.1 76 95 = C0.1 76 95 ∧ C'.1 76 89 = 0 ∧ C'.1 76 74 = 0) ∧ frQ F C0 C' ∧ frV C0 C')) ∧ MH C' t = h) ∧ sl = m
section ME7
variable {L : Nat} {xs : Nat → Int32} {C : co_T} {t : ab_H} {d sl b f p k w2 w3 F u D v row : Nat} {S : st_T} {N O : rw_F} {r : ro_T} {σ : es_T} {a : ac_T} {P : Option Value → ab_H → Nat → Prop} {X : Nat → ab_H → Nat → Prop}
set_option maxRecDepth 100000 in
theorem bc_Q : frQ F C (bcC C F p row) := by
  unfold bcC
  refine ⟨fun k j h1 h2 h3 h4 => ?_, fun _ _ _ _ _ => rfl, rfl⟩
  rw [sI_1, if_neg (by omega), sI_1, if_neg (by omega), sI_1, if_neg (by omega), sI_1, if_neg (by omega), sI_1, if_neg (by omega), sI_1, if_neg (by omega)]
set_option maxRecDepth 100000 in
theorem bc_V : frV C (bcC C F p row) := by
  have e : ∀ k j, k = 115 ∨ k = 117 ∨ k = 118 → (bcC C F p row).1 k j = C.1 k j := by
    intro k j h
    unfold bcC
    rw [sI_1, if_neg (by omega), sI_1, if_neg (by omega), sI_1, if_neg (by omega), sI_1, if_neg (by omega), sI_1, if_neg (by omega), sI_1, if_neg (by omega)]
  exact ⟨fun j => e 115 j (by omega), fun j => e 117 j (by omega), fun j => e 118 j (by omega), fun _ => rfl⟩
set_option maxRecDepth 100000 in
theorem bc_S : CFM (bcC C F p row) F p row 0 0 := by
  unfold CFM bcC
  simp [sI_1]
set_option maxRecDepth 100000 in
theorem bc_C : (bcC C F p row).1 76 75 = nI (F + 1) ∧ (bcC C F p row).1 76 93 = C.1 76 93 ∧ (bcC C F p row).1 76 94 = C.1 76 94 ∧ (bcC C F p row).1 76 95 = C.1 76 95 ∧ (bcC C F p row).1 76 89 = C.1 76 89 ∧ (bcC C F p row).1 76 74 = C.1 76 74 := by
  unfold bcC
  simp [sI_1]
/-! what the loop of rows leaves of a change's frame -/
set_option maxRecDepth 100000 in
theorem BCQ_i {C1 C2 : co_T} {is : List Int32} (f1 : frH F C1 C2) (hs : CFM C1 F p row 0 0) (hc : C1.1 76 75 = nI (F + 1) ∧ C1.1 76 93 = C.1 76 93 ∧ C1.1 76 94 = C.1 76 94 ∧ C1.1 76 95 = C.1 76 95 ∧ C1.1 76 89 = C.1 76 89 ∧ C1.1 76 74 = C.1 76 74) (q : frQ F C C1) (v : frV C C1) (h9 : C2.1 76 89 = 0) (hz : C2.1 76 74 = 0) (hm : C2.1 134 F = nI is.length) (h4 : is.length ≤ 40) (hi : idsM C2 F is) : BCQ C t F p row sl (some is) none (MH C2 t) sl := by
  have e : ∀ k j, 125 ≤ k → k < 133 ∨ k = 135 → C2.1 k j = C1.1 k j := fun k j _ _ => f1.1 k j (by omega) (by omega) (by omega)
  have e2 : ∀ j, j = 75 ∨ j = 93 ∨ j = 94 ∨ j = 95 → C2.1 76 j = C1.1 76 j := fun j _ => f1.1 76 j (by omega) (by omega) (by omega)
  exact ⟨rfl, ⟨C2, Or.inr ⟨is, rfl, ⟨(e 125 F (by omega) (by omega)).trans hs.1, (e 126 F (by omega) (by omega)).trans hs.2.1, (e 127 F (by omega) (by omega)).trans hs.2.2.1, hm, (e 135 F (by omega) (by omega)).trans hs.2.2.2.2⟩, ⟨h4, hi⟩, ⟨(e2 75 (by omega)).trans hc.1, (e2 93 (by omega)).trans hc.2.1, (e2 94 (by omega)).trans hc.2.2.1, (e2 95 (by omega)).trans hc.2.2.2.1, h9, hz⟩, frQ_t q (frH_Q f1), frV_t v (frH_V f1)⟩, rfl⟩, rfl⟩
set_option maxRecDepth 100000 in
theorem m_250 (hFr : C.1 76 75 = nI F) (hF : F < 40) (hb : b < 6) (hp : p ≤ 40) (hW : RWM C (sWd S) σ.1) (h89 : C.1 76 89 = 0) (h74 : C.1 76 74 = 0) (A : ACM C p a) (hab : aTb a = some b) (hk1 : 1 ≤ aKd a) (hk2 : aKd a ≤ 2) (hok : okT2 (sWd S b) w2 w3 (aWh a)) (hro : row < F ∨ w2 = 0 ∧ w3 = 0 ∧ row < 40) (hw2 : w2 ≤ 6) (hw3 : w3 ≤ 6) (hbN : bfM C 136 row w2 N) (hbO : bfM C 137 row w3 O) : Wd L xs (d + 4) y_250 (0, [(0, .ref 176), (1, .int (nI (p))), (2, .int (nI (row)))], [], MH C t, sl) (BCQ C t F p row sl (fnR (fun r => tst r.2 N O (aWh a)) (σ.1 b).1)) nX := by
  have hq := bc_Q (C := C) (F := F) (p := p) (row := row)
  have hv := bc_V (C := C) (F := F) (p := p) (row := row)
  have A1 := ACM_Q hq A
  have ht := A1.2.1
  rw [hab] at ht
  have hc := bc_C (C := C) (F := F) (p := p) (row := row)
  have hs := bc_S (C := C) (F := F) (p := p) (row := row)
  obtain ⟨s, hs6, hwh⟩ : ∃ s, s ≤ 619 ∧ whM (bcC C F p row) p s (aWh a) := by
    have h12 : aKd a = 1 ∨ aKd a = 2 := by omega
    rcases h12 with h | h
    · exact ⟨_, (A1.2.2.2.1 h).1, (A1.2.2.2.1 h).2.2⟩
    · exact ⟨0, by decide, A1.2.2.2.2 h⟩
  have hfin := lp_250 (L := L) (xs := xs) (t := t) (d := d) (sl := sl) (C0 := bcC C F p row) (V0 := fnR (fun r => tst r.2 N O (aWh a)) (σ.1 b).1) (N := N) (O := O) (row := row) hF hb hp (RWM_V hv hW) A1.1 hk1 hk2 hs6 hwh hok (by omega) hw2 hw3 hbN hbO (σ.1 b).1 [] [] (bcC C F p row) rfl frH_r (hc.2.2.2.2.1.trans h89) (hc.2.2.2.2.2.trans h74) hs.2.2.2.1 (Nat.le_refl _) (fun j x hj => by cases hj) (by
    show Option.map (fun x => x) _ = _
    cases fnR (fun r => tst r.2 N O (aWh a)) (σ.1 b).1 <;> rfl)
  have hfin2 : Wd L xs (d + 4) y_250 (61, [(5, .int 0), (4, .int (nI (b))), (3, .int (nI (F))), (0, .ref 176), (1, .int (nI (p))), (2, .int (nI (row)))], [], MH (bcC C F p row) t, sl) (BCQ C t F p row sl (fnR (fun r => tst r.2 N O (aWh a)) (σ.1 b).1)) nX := by
    refine Wd_q hfin (fun v0 h m hz => ?_) (fun _ _ _ e => e)
    obtain ⟨z1, ⟨C2, z2, z3⟩, z4⟩ := hz
    subst z1
    subst z3
    subst z4
    rcases z2 with ⟨y1, y2, y0, y3⟩ | ⟨is, y1, y2, y3, y4, y5, y6, y7⟩
    · exact ⟨rfl, ⟨C2, Or.inl ⟨y1, y2, ⟨(y3.1 76 93 (by omega) (by omega) (by omega)).trans hc.2.1, (y3.1 76 95 (by omega) (by omega) (by omega)).trans hc.2.2.2.1, true, y0⟩, frQ_t hq (frH_Q y3), frV_t hv (frH_V y3)⟩, rfl⟩, rfl⟩
    · rw [y1]
      exact BCQ_i y7 hs hc hq hv y2 y3 y4 y5 y6
  clear hfin
  unfold bcC at ht hfin2
  refine w_p (pc1 := 1) rfl rfl ?_
  refine w_m0 (pc1 := 4) (st1 := .int (nI (F)) :: _) rfl rfl (h_gIe (j := 75) rfl rfl rfl rfl rfl (hFr)) rfl ?_
  refine w_p (pc1 := 5) (al1 := [(3, .int (nI (F))), (0, .ref 176), (1, .int (nI (p))), (2, .int (nI (row)))]) rfl rfl ?_
  refine w_p (pc1 := 6) rfl rfl ?_
  refine w_p (pc1 := 7) rfl rfl ?_
  refine w_m0 (pc1 := 10) (st1 := .int (nI (F)) :: _) rfl rfl (h_gIe (j := 75) rfl rfl rfl rfl rfl (hFr)) rfl ?_
  refine w_p (pc1 := 11) (st1 := .int 1 :: _) rfl rfl ?_
  refine w_iadd (pc1 := 12) (u := nI (F)) (v := nI (1)) (z := nI (F + 1)) rfl (nK_add) rfl ?_
  refine w_m0 (pc1 := 15) rfl rfl (h_pI (j := 75) rfl rfl rfl rfl rfl rfl rfl ⟨rfl, rfl⟩ rfl) rfl ?_
  refine w_p (pc1 := 16) rfl rfl ?_
  refine w_m0 (pc1 := 19) rfl rfl (h_gC rfl rfl rfl rfl) rfl ?_
  refine w_p (pc1 := 20) rfl rfl ?_
  refine w_p (pc1 := 21) (st1 := .int 0 :: _) rfl rfl ?_
  refine w_m0 (pc1 := 22) rfl rfl (n_is (e := F) rfl rfl rfl (by omega)) rfl ?_
  refine w_p (pc1 := 23) rfl rfl ?_
  refine w_m0 (pc1 := 26) rfl rfl (h_gC rfl rfl rfl rfl) rfl ?_
  refine w_p (pc1 := 27) rfl rfl ?_
  refine w_p (pc1 := 28) rfl rfl ?_
  refine w_m0 (pc1 := 29) rfl rfl (n_is (e := F) rfl rfl rfl (by omega)) rfl ?_
  refine w_p (pc1 := 30) rfl rfl ?_
  refine w_m0 (pc1 := 33) rfl rfl (h_gC rfl rfl rfl rfl) rfl ?_
  refine w_p (pc1 := 34) rfl rfl ?_
  refine w_p (pc1 := 35) rfl rfl ?_
  refine w_m0 (pc1 := 36) rfl rfl (n_is (e := F) rfl rfl rfl (by omega)) rfl ?_
  refine w_p (pc1 := 37) rfl rfl ?_
  refine w_m0 (pc1 := 40) rfl rfl (h_gC rfl rfl rfl rfl) rfl ?_
  refine w_p (pc1 := 41) rfl rfl ?_
  refine w_p (pc1 := 42) (st1 := .int 0 :: _) rfl rfl ?_
  refine w_m0 (pc1 := 43) rfl rfl (n_is (e := F) rfl rfl rfl (by omega)) rfl ?_
  refine w_p (pc1 := 44) rfl rfl ?_
  refine w_m0 (pc1 := 47) rfl rfl (h_gC rfl rfl rfl rfl) rfl ?_
  refine w_p (pc1 := 48) rfl rfl ?_
  refine w_p (pc1 := 49) (st1 := .int 0 :: _) rfl rfl ?_
  refine w_m0 (pc1 := 50) rfl rfl (n_is (e := F) rfl rfl rfl (by omega)) rfl ?_
  refine w_p (pc1 := 51) rfl rfl ?_
  refine w_m0 (pc1 := 54) rfl rfl (h_gC rfl rfl rfl rfl) rfl ?_
  refine w_p (pc1 := 55) rfl rfl ?_
  refine w_m0 (pc1 := 56) (st1 := .int (nI (b)) :: _) rfl rfl (n_ile (e := p) rfl rfl rfl (by omega) (ht)) rfl ?_
  refine w_p (pc1 := 58) (al1 := [(4, .int (nI (b))), (3, .int (nI (F))), (0, .ref 176), (1, .int (nI (p))), (2, .int (nI (row)))]) rfl rfl ?_
  refine w_p (pc1 := 59) (st1 := .int 0 :: _) rfl rfl ?_
  refine w_p (pc1 := 61) (al1 := [(5, .int 0), (4, .int (nI (b))), (3, .int (nI (F))), (0, .ref 176), (1, .int (nI (p))), (2, .int (nI (row)))]) rfl rfl ?_
  exact hfin2
set_option maxRecDepth 100000 in
theorem m_250_0 (hFr : C.1 76 75 = nI F) (hF : F < 40) (hb : b < 6) (hp : p ≤ 40) (hW : RWM C (sWd S) σ.1) (h89 : C.1 76 89 = 0) (h74 : C.1 76 74 = 0) (A : ACM C p a) (hab : aTb a = some b) (hk0 : aKd a = 0) (hro : row < 40) : Wd L xs (d + 4) y_250 (0, [(0, .ref 176), (1, .int (nI (p))), (2, .int (nI (row)))], [], MH C t, sl) (BCQ C t F p row sl (some [])) nX := by
  have hq := bc_Q (C := C) (F := F) (p := p) (row := row)
  have hv := bc_V (C := C) (F := F) (p := p) (row := row)
  have A1 := ACM_Q hq A
  have ht := A1.2.1
  have hkd := A1.1
  rw [hab] at ht
  rw [hk0] at hkd
  have hc := bc_C (C := C) (F := F) (p := p) (row := row)
  have hs := bc_S (C := C) (F := F) (p := p) (row := row)
  obtain ⟨g1, g2, g3, g4⟩ := RWM_V hv hW b hb
  have hret : BCQ C t F p row sl (some []) none (MH (bcC C F p row) t) sl := BCQ_i frH_r hs hc hq hv (hc.2.2.2.2.1.trans h89) (hc.2.2.2.2.2.trans h74) hs.2.2.2.1 (by decide) (fun j x hj => by cases hj)
  unfold bcC at ht hkd g2 hret
  by_cases hn0 : (σ.1 b).1.length = 0
  · skip
    refine w_p (pc1 := 1) rfl rfl ?_
    refine w_m0 (pc1 := 4) (st1 := .int (nI (F)) :: _) rfl rfl (h_gIe (j := 75) rfl rfl rfl rfl rfl (hFr)) rfl ?_
    refine w_p (pc1 := 5) (al1 := [(3, .int (nI (F))), (0, .ref 176), (1, .int (nI (p))), (2, .int (nI (row)))]) rfl rfl ?_
    refine w_p (pc1 := 6) rfl rfl ?_
    refine w_p (pc1 := 7) rfl rfl ?_
    refine w_m0 (pc1 := 10) (st1 := .int (nI (F)) :: _) rfl rfl (h_gIe (j := 75) rfl rfl rfl rfl rfl (hFr)) rfl ?_
    refine w_p (pc1 := 11) (st1 := .int 1 :: _) rfl rfl ?_
    refine w_iadd (pc1 := 12) (u := nI (F)) (v := nI (1)) (z := nI (F + 1)) rfl (nK_add) rfl ?_
    refine w_m0 (pc1 := 15) rfl rfl (h_pI (j := 75) rfl rfl rfl rfl rfl rfl rfl ⟨rfl, rfl⟩ rfl) rfl ?_
    refine w_p (pc1 := 16) rfl rfl ?_
    refine w_m0 (pc1 := 19) rfl rfl (h_gC rfl rfl rfl rfl) rfl ?_
    refine w_p (pc1 := 20) rfl rfl ?_
    refine w_p (pc1 := 21) (st1 := .int 0 :: _) rfl rfl ?_
    refine w_m0 (pc1 := 22) rfl rfl (n_is (e := F) rfl rfl rfl (by omega)) rfl ?_
    refine w_p (pc1 := 23) rfl rfl ?_
    refine w_m0 (pc1 := 26) rfl rfl (h_gC rfl rfl rfl rfl) rfl ?_
    refine w_p (pc1 := 27) rfl rfl ?_
    refine w_p (pc1 := 28) rfl rfl ?_
    refine w_m0 (pc1 := 29) rfl rfl (n_is (e := F) rfl rfl rfl (by omega)) rfl ?_
    refine w_p (pc1 := 30) rfl rfl ?_
    refine w_m0 (pc1 := 33) rfl rfl (h_gC rfl rfl rfl rfl) rfl ?_
    refine w_p (pc1 := 34) rfl rfl ?_
    refine w_p (pc1 := 35) rfl rfl ?_
    refine w_m0 (pc1 := 36) rfl rfl (n_is (e := F) rfl rfl rfl (by omega)) rfl ?_
    refine w_p (pc1 := 37) rfl rfl ?_
    refine w_m0 (pc1 := 40) rfl rfl (h_gC rfl rfl rfl rfl) rfl ?_
    refine w_p (pc1 := 41) rfl rfl ?_
    refine w_p (pc1 := 42) (st1 := .int 0 :: _) rfl rfl ?_
    refine w_m0 (pc1 := 43) rfl rfl (n_is (e := F) rfl rfl rfl (by omega)) rfl ?_
    refine w_p (pc1 := 44) rfl rfl ?_
    refine w_m0 (pc1 := 47) rfl rfl (h_gC rfl rfl rfl rfl) rfl ?_
    refine w_p (pc1 := 48) rfl rfl ?_
    refine w_p (pc1 := 49) (st1 := .int 0 :: _) rfl rfl ?_
    refine w_m0 (pc1 := 50) rfl rfl (n_is (e := F) rfl rfl rfl (by omega)) rfl ?_
    refine w_p (pc1 := 51) rfl rfl ?_
    refine w_m0 (pc1 := 54) rfl rfl (h_gC rfl rfl rfl rfl) rfl ?_
    refine w_p (pc1 := 55) rfl rfl ?_
    refine w_m0 (pc1 := 56) (st1 := .int (nI (b)) :: _) rfl rfl (n_ile (e := p) rfl rfl rfl (by omega) (ht)) rfl ?_
    refine w_p (pc1 := 58) (al1 := [(4, .int (nI (b))), (3, .int (nI (F))), (0, .ref 176), (1, .int (nI (p))), (2, .int (nI (row)))]) rfl rfl ?_
    refine w_p (pc1 := 59) (st1 := .int 0 :: _) rfl rfl ?_
    refine w_p (pc1 := 61) (al1 := [(5, .int 0), (4, .int (nI (b))), (3, .int (nI (F))), (0, .ref 176), (1, .int (nI (p))), (2, .int (nI (row)))]) rfl rfl ?_
    refine w_p (pc1 := 63) rfl rfl ?_
    refine w_p (pc1 := 64) rfl rfl ?_
    refine w_m0 (pc1 := 67) rfl rfl (h_gC rfl rfl rfl rfl) rfl ?_
    refine w_p (pc1 := 69) rfl rfl ?_
    refine w_m0 (pc1 := 70) (st1 := .int (nI ((σ.1 b).1.length)) :: _) rfl rfl (n_ile (e := b) rfl rfl rfl (by omega) (g2)) rfl ?_
    refine w_t (a := 199) (b := 73) (bN_ge_t (a := 0) (b := (σ.1 b).1.length) (by omega) (by omega) (by omega)) rfl rfl ?_
    refine w_r rfl rfl rfl (fun _ _ => rfl) rfl ?_
    exact hret
  · skip
    refine w_p (pc1 := 1) rfl rfl ?_
    refine w_m0 (pc1 := 4) (st1 := .int (nI (F)) :: _) rfl rfl (h_gIe (j := 75) rfl rfl rfl rfl rfl (hFr)) rfl ?_
    refine w_p (pc1 := 5) (al1 := [(3, .int (nI (F))), (0, .ref 176), (1, .int (nI (p))), (2, .int (nI (row)))]) rfl rfl ?_
    refine w_p (pc1 := 6) rfl rfl ?_
    refine w_p (pc1 := 7) rfl rfl ?_
    refine w_m0 (pc1 := 10) (st1 := .int (nI (F)) :: _) rfl rfl (h_gIe (j := 75) rfl rfl rfl rfl rfl (hFr)) rfl ?_
    refine w_p (pc1 := 11) (st1 := .int 1 :: _) rfl rfl ?_
    refine w_iadd (pc1 := 12) (u := nI (F)) (v := nI (1)) (z := nI (F + 1)) rfl (nK_add) rfl ?_
    refine w_m0 (pc1 := 15) rfl rfl (h_pI (j := 75) rfl rfl rfl rfl rfl rfl rfl ⟨rfl, rfl⟩ rfl) rfl ?_
    refine w_p (pc1 := 16) rfl rfl ?_
    refine w_m0 (pc1 := 19) rfl rfl (h_gC rfl rfl rfl rfl) rfl ?_
    refine w_p (pc1 := 20) rfl rfl ?_
    refine w_p (pc1 := 21) (st1 := .int 0 :: _) rfl rfl ?_
    refine w_m0 (pc1 := 22) rfl rfl (n_is (e := F) rfl rfl rfl (by omega)) rfl ?_
    refine w_p (pc1 := 23) rfl rfl ?_
    refine w_m0 (pc1 := 26) rfl rfl (h_gC rfl rfl rfl rfl) rfl ?_
    refine w_p (pc1 := 27) rfl rfl ?_
    refine w_p (pc1 := 28) rfl rfl ?_
    refine w_m0 (pc1 := 29) rfl rfl (n_is (e := F) rfl rfl rfl (by omega)) rfl ?_
    refine w_p (pc1 := 30) rfl rfl ?_
    refine w_m0 (pc1 := 33) rfl rfl (h_gC rfl rfl rfl rfl) rfl ?_
    refine w_p (pc1 := 34) rfl rfl ?_
    refine w_p (pc1 := 35) rfl rfl ?_
    refine w_m0 (pc1 := 36) rfl rfl (n_is (e := F) rfl rfl rfl (by omega)) rfl ?_
    refine w_p (pc1 := 37) rfl rfl ?_
    refine w_m0 (pc1 := 40) rfl rfl (h_gC rfl rfl rfl rfl) rfl ?_
    refine w_p (pc1 := 41) rfl rfl ?_
    refine w_p (pc1 := 42) (st1 := .int 0 :: _) rfl rfl ?_
    refine w_m0 (pc1 := 43) rfl rfl (n_is (e := F) rfl rfl rfl (by omega)) rfl ?_
    refine w_p (pc1 := 44) rfl rfl ?_
    refine w_m0 (pc1 := 47) rfl rfl (h_gC rfl rfl rfl rfl) rfl ?_
    refine w_p (pc1 := 48) rfl rfl ?_
    refine w_p (pc1 := 49) (st1 := .int 0 :: _) rfl rfl ?_
    refine w_m0 (pc1 := 50) rfl rfl (n_is (e := F) rfl rfl rfl (by omega)) rfl ?_
    refine w_p (pc1 := 51) rfl rfl ?_
    refine w_m0 (pc1 := 54) rfl rfl (h_gC rfl rfl rfl rfl) rfl ?_
    refine w_p (pc1 := 55) rfl rfl ?_
    refine w_m0 (pc1 := 56) (st1 := .int (nI (b)) :: _) rfl rfl (n_ile (e := p) rfl rfl rfl (by omega) (ht)) rfl ?_
    refine w_p (pc1 := 58) (al1 := [(4, .int (nI (b))), (3, .int (nI (F))), (0, .ref 176), (1, .int (nI (p))), (2, .int (nI (row)))]) rfl rfl ?_
    refine w_p (pc1 := 59) (st1 := .int 0 :: _) rfl rfl ?_
    refine w_p (pc1 := 61) (al1 := [(5, .int 0), (4, .int (nI (b))), (3, .int (nI (F))), (0, .ref 176), (1, .int (nI (p))), (2, .int (nI (row)))]) rfl rfl ?_
    refine w_p (pc1 := 63) rfl rfl ?_
    refine w_p (pc1 := 64) rfl rfl ?_
    refine w_m0 (pc1 := 67) rfl rfl (h_gC rfl rfl rfl rfl) rfl ?_
    refine w_p (pc1 := 69) rfl rfl ?_
    refine w_m0 (pc1 := 70) (st1 := .int (nI ((σ.1 b).1.length)) :: _) rfl rfl (n_ile (e := b) rfl rfl rfl (by omega) (g2)) rfl ?_
    refine w_f (a := 199) (b := 73) (bN_ge_f (a := 0) (b := (σ.1 b).1.length) (by omega) (by omega) (by omega)) rfl rfl ?_
    refine w_p (pc1 := 74) rfl rfl ?_
    refine w_m0 (pc1 := 77) rfl rfl (h_gC rfl rfl rfl rfl) rfl ?_
    refine w_p (pc1 := 78) rfl rfl ?_
    refine w_m0 (pc1 := 79) (st1 := .int 0 :: _) rfl rfl (n_ile (e := p) rfl rfl rfl (by omega) (hkd)) rfl ?_
    refine w_t (a := 199) (b := 82) rfl rfl rfl ?_
    refine w_r rfl rfl rfl (fun _ _ => rfl) rfl ?_
    exact hret
/-! goOn's head -/
def QR (t : ab_H) (R : co_T → Prop) : Option Value → ab_H → Nat → Prop := fun v h m => none = v ∧ (∃ C', R C' ∧ MH C' t = h) ∧ 0 = m
set_option maxRecDepth 100000 in
theorem goE (h : C.1 76 89 ≠ 0) (hP : P none (MH C t) sl) : Wd L xs (d + 8) y_257 (0, [(0, .ref 176)], [], MH C t, sl) P X := by
  refine w_p (pc1 := 1) rfl rfl ?_
  refine w_m0 (pc1 := 4) rfl rfl (h_gI (j := 75) rfl rfl rfl rfl rfl) rfl ?_
  refine w_b (a := 46) (b := 7) rfl rfl (fun c4 => ?_) (fun c4 => ?_)
  · replace c4 := ck_le_t (n := 0) rfl c4
    refine w_r rfl rfl rfl (fun _ _ => rfl) rfl ?_
    exact hP
  · replace c4 := ck_le_f (n := 0) rfl c4
    refine w_p (pc1 := 8) rfl rfl ?_
    refine w_m0 (pc1 := 11) rfl rfl (h_gI (j := 89) rfl rfl rfl rfl rfl) rfl ?_
    refine w_t (a := 46) (b := 14) (cb_ne_t (by exact h)) rfl rfl ?_
    refine w_r rfl rfl rfl (fun _ _ => rfl) rfl ?_
    exact hP
set_option maxRecDepth 100000 in
theorem go0 (h : C.1 76 75 = 0) (hP : P none (MH C t) sl) : Wd L xs (d + 8) y_257 (0, [(0, .ref 176)], [], MH C t, sl) P X := by
  refine w_p (pc1 := 1) rfl rfl ?_
  refine w_m0 (pc1 := 4) (st1 := .int 0 :: _) rfl rfl (h_gIe (j := 75) rfl rfl rfl rfl rfl (h)) rfl ?_
  refine w_t (a := 46) (b := 7) rfl rfl rfl ?_
  refine w_r rfl rfl rfl (fun _ _ => rfl) rfl ?_
  exact hP
set_option maxRecDepth 100000 in
theorem goC {R : co_T → Prop} (h75 : C.1 76 75 = nI (f + 1)) (hf : f < 40) (h89 : C.1 76 89 = 0) (hs : C.1 125 f = 0) (hc : Wd L xs (d + 7) y_258 (0, [(0, .ref 176), (1, .int (nI f))], [], MH C t, 0) (QR t R) nX) (H : ∀ C', R C' → Wd L xs (d + 8) y_257 (0, [(0, .ref 176)], [], MH C' t, sl) P X) : Wd L xs (d + 8) y_257 (0, [(0, .ref 176)], [], MH C t, sl) P X := by
  refine w_p (pc1 := 1) rfl rfl ?_
  refine w_m0 (pc1 := 4) (st1 := .int (nI (f + 1)) :: _) rfl rfl (h_gIe (j := 75) rfl rfl rfl rfl rfl (h75)) rfl ?_
  refine w_f (a := 46) (b := 7) (bN_le_f (a := f + 1) (b := 0) (by omega) (by omega) (by omega)) rfl rfl ?_
  refine w_p (pc1 := 8) rfl rfl ?_
  refine w_m0 (pc1 := 11) (st1 := .int 0 :: _) rfl rfl (h_gIe (j := 89) rfl rfl rfl rfl rfl (h89)) rfl ?_
  refine w_f (a := 46) (b := 14) rfl rfl rfl ?_
  refine w_p (pc1 := 15) rfl rfl ?_
  refine w_m0 (pc1 := 18) (st1 := .int (nI (f + 1)) :: _) rfl rfl (h_gIe (j := 75) rfl rfl rfl rfl rfl (h75)) rfl ?_
  refine w_p (pc1 := 19) (st1 := .int 1 :: _) rfl rfl ?_
  refine w_isub (pc1 := 20) (z := nI (f)) rfl (nK_s) rfl ?_
  refine w_p (pc1 := 21) (al1 := [(1, .int (nI (f))), (0, .ref 176)]) rfl rfl ?_
  refine w_p (pc1 := 22) rfl rfl ?_
  refine w_m0 (pc1 := 25) rfl rfl (h_gC rfl rfl rfl rfl) rfl ?_
  refine w_p (pc1 := 26) rfl rfl ?_
  refine w_m0 (pc1 := 27) (st1 := .int 0 :: _) rfl rfl (n_ile (e := f) rfl rfl rfl (by omega) (hs)) rfl ?_
  refine w_f (a := 38) (b := 30) rfl rfl rfl ?_
  refine w_p (pc1 := 31) rfl rfl ?_
  refine w_p (pc1 := 32) rfl rfl ?_
  refine w_ji (pc1 := 35) (vs := [.ref 176, .int (nI (f))]) (rest := []) (hc) rfl rfl rfl (fun _ _ => rfl) rfl (by exact cl_v my_258 rfl rfl rfl (Nat.le_of_ble_eq_true rfl) rfl (MH_obj rfl rfl) rfl (by decide) rfl rfl) (by rfl) (Nat.le_of_ble_eq_true rfl) (Nat.le_of_ble_eq_true rfl) rfl (fun v h m hq => ?_) (fun _ _ _ e => e.elim)
  obtain ⟨rfl, ⟨C1, hR, rfl⟩, rfl⟩ := hq
  refine w_p (pc1 := 43) rfl rfl ?_
  refine w_p (pc1 := 0) rfl rfl ?_
  refine Wd_al (al := [(0, .ref 176)]) (sba_p [1] rfl rfl) ?_
  exact H C1 hR
set_option maxRecDepth 100000 in
theorem goS {R : co_T → Prop} (h75 : C.1 76 75 = nI (f + 1)) (hf : f < 40) (h89 : C.1 76 89 = 0) (hs : C.1 125 f = 1) (hc : Wd L xs (d + 7) y_265 (0, [(0, .ref 176), (1, .int (nI f))], [], MH C t, 0) (QR t R) nX) (H : ∀ C', R C' → Wd L xs (d + 8) y_257 (0, [(0, .ref 176)], [], MH C' t, sl) P X) : Wd L xs (d + 8) y_257 (0, [(0, .ref 176)], [], MH C t, sl) P X := by
  refine w_p (pc1 := 1) rfl rfl ?_
  refine w_m0 (pc1 := 4) (st1 := .int (nI (f + 1)) :: _) rfl rfl (h_gIe (j := 75) rfl rfl rfl rfl rfl (h75)) rfl ?_
  refine w_f (a := 46) (b := 7) (bN_le_f (a := f + 1) (b := 0) (by omega) (by omega) (by omega)) rfl rfl ?_
  refine w_p (pc1 := 8) rfl rfl ?_
  refine w_m0 (pc1 := 11) (st1 := .int 0 :: _) rfl rfl (h_gIe (j := 89) rfl rfl rfl rfl rfl (h89)) rfl ?_
  refine w_f (a := 46) (b := 14) rfl rfl rfl ?_
  refine w_p (pc1 := 15) rfl rfl ?_
  refine w_m0 (pc1 := 18) (st1 := .int (nI (f + 1)) :: _) rfl rfl (h_gIe (j := 75) rfl rfl rfl rfl rfl (h75)) rfl ?_
  refine w_p (pc1 := 19) (st1 := .int 1 :: _) rfl rfl ?_
  refine w_isub (pc1 := 20) (z := nI (f)) rfl (nK_s) rfl ?_
  refine w_p (pc1 := 21) (al1 := [(1, .int (nI (f))), (0, .ref 176)]) rfl rfl ?_
  refine w_p (pc1 := 22) rfl rfl ?_
  refine w_m0 (pc1 := 25) rfl rfl (h_gC rfl rfl rfl rfl) rfl ?_
  refine w_p (pc1 := 26) rfl rfl ?_
  refine w_m0 (pc1 := 27) (st1 := .int 1 :: _) rfl rfl (n_ile (e := f) rfl rfl rfl (by omega) (hs)) rfl ?_
  refine w_t (a := 38) (b := 30) rfl rfl rfl ?_
  refine w_p (pc1 := 39) rfl rfl ?_
  refine w_p (pc1 := 40) rfl rfl ?_
  refine w_ji (pc1 := 43) (vs := [.ref 176, .int (nI (f))]) (rest := []) (hc) rfl rfl rfl (fun _ _ => rfl) rfl (by exact cl_v my_265 rfl rfl rfl (Nat.le_of_ble_eq_true rfl) rfl (MH_obj rfl rfl) rfl (by decide) rfl rfl) (by rfl) (Nat.le_of_ble_eq_true rfl) (Nat.le_of_ble_eq_true rfl) rfl (fun v h m hq => ?_) (fun _ _ _ e => e.elim)
  obtain ⟨rfl, ⟨C1, hR, rfl⟩, rfl⟩ := hq
  refine w_p (pc1 := 0) rfl rfl ?_
  refine Wd_al (al := [(0, .ref 176)]) (sba_p [1] rfl rfl) ?_
  exact H C1 hR
end ME7
