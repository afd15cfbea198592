
/-! THE OTHER SIDE'S ENGINE: triggers -/
def TB (S : st_T) (σ : es_T) (D F b kd : Nat) (i0 ph nx : Int32) (N O : rw_F) (C : co_T) : Prop := MSt C S ∧ MEn C (sWd S) σ D (F + 1) ∧ SFM C F (nI kd) (nI b) i0 ph nx ∧ bfM C 136 F (sWd S b) N ∧ bfM C 137 F (w3k (sWd S) kd b) O
def TRd (S : st_T) (m b kd ti : Nat) (i0 : Int32) (O N : rw_F) (σ : es_T) (D F g : Nat) (ph : Int32) (C C' : co_T) : Prop :=
  (∃ N', fir1 S (stp S m) b ti kd O g (N, σ) = ((N', σ), none) ∧ TB S σ D F b kd i0 ph (nI (g + 1)) N' O C' ∧ frQ F C C') ∨
  (∃ e, fir1 S (stp S m) b ti kd O g (N, σ) = ((N, σ), some e) ∧ C'.1 76 89 ≠ 0 ∧ MX C' σ ∧ spM C' e ∧ (∃ y, C'.1 76 74 = ck y) ∧ frQ F C C') ∨
  (∃ a w2 w3 C1, fir1 S (stp S m) b ti kd O g (N, σ) = ((N, (chg S (stp S m) a N O σ).1), (chg S (stp S m) a N O σ).2) ∧ aKd a < 3 ∧ okA2 (sWd S) (sWd S b) w2 w3 a ∧ (w2 ≤ sWd S b ∧ w3 ≤ w3k (sWd S) kd b) ∧ ACM C1 (32 + g) a ∧ TB S σ D F b kd i0 ph (nI (g + 1)) N O C1 ∧ frQ F C C1 ∧ BCd C1 C' (F + 1) (32 + g) F (bcX N O σ a))
section MEa
variable {L : Nat} {xs : Nat → Int32} {C C0 : co_T} {t : ab_H} {d sl b p k m n w0 w2 w3 F D g kd ti : Nat} {S : st_T} {N O : rw_F} {r : ro_T} {σ : es_T} {a : ac_T} {i0 ph nx : Int32} {P : Option Value → ab_H → Nat → Prop} {X : Nat → ab_H → Nat → Prop} {R : co_T → Prop} {G : tr_T}
set_option maxRecDepth 100000 in
theorem SFM_W {C' : co_T} {x y z u v : Int32} (h : frW C C') (s : SFM C F x y z u v) : SFM C' F x y z u v := ⟨(h.1 125 F (by omega)).trans s.1, (h.1 128 F (by omega)).trans s.2.1, (h.1 129 F (by omega)).trans s.2.2.1, (h.1 130 F (by omega)).trans s.2.2.2.1, (h.1 131 F (by omega)).trans s.2.2.2.2.1, (h.1 132 F (by omega)).trans s.2.2.2.2.2⟩
set_option maxRecDepth 100000 in
theorem bfM_W {C' : co_T} {w kk : Nat} {v : rw_F} (h : frW C C') (hk : kk ≠ 124) (B : bfM C kk F w v) : bfM C' kk F w v := fun c hc => (h.2.1 kk _ hk).trans (B c hc)
set_option maxRecDepth 100000 in
theorem TB_W {C' : co_T} (h : frW C C') (h7 : C'.1 76 74 = 0) (B : TB S σ D F b kd i0 ph nx N O C) : TB S σ D F b kd i0 ph nx N O C' := ⟨MSt_Q (frQ_W (f := 0) h) B.1, MEn_k (frV_W h) (fun j hj => by
    by_cases e : j = 74
    · subst e
      exact h7.trans B.2.1.2.2.2.2.2.2.symm
    · exact h.1 76 j (by omega)) B.2.1, SFM_W h B.2.2.1, bfM_W h (by decide) B.2.2.2.1, bfM_W h (by decide) B.2.2.2.2⟩
set_option maxRecDepth 100000 in
theorem w3k6 (ho : okSt S) (hb : b < 6) : sWd S b ≤ 6 ∧ w3k (sWd S) kd b ≤ 6 := by
  have := ho.1 b hb
  refine ⟨this, ?_⟩
  unfold w3k
  split <;> omega
set_option maxRecDepth 100000 in
theorem TB_Q {C' : co_T} {σ' : es_T} (ho : okSt S) (hb : b < 6) (h : frQ (F + 1) C C') (E : MEn C' (sWd S) σ' D (F + 1)) (B : TB S σ D F b kd i0 ph nx N O C) : TB S σ' D F b kd i0 ph nx N O C' := ⟨MSt_Q h B.1, E, SFM_Q h (by omega) B.2.2.1, bfM_Q h (by omega) (w3k6 (kd := kd) ho hb).1 (by omega) B.2.2.2.1, bfM_Q h (by omega) (w3k6 (kd := kd) ho hb).2 (by omega) B.2.2.2.2⟩
set_option maxRecDepth 100000 in
theorem TB_n {v : Int32} (B : TB S σ D F b kd i0 ph nx N O C) : TB S σ D F b kd i0 ph v N O (sI C 132 F v) := ⟨MSt_Q (frQ_I (f := F) (by omega)) B.1, MEn_I (by omega) B.2.1, ⟨by rw [sI_1, if_neg (by omega)]; exact B.2.2.1.1, by rw [sI_1, if_neg (by omega)]; exact B.2.2.1.2.1, by rw [sI_1, if_neg (by omega)]; exact B.2.2.1.2.2.1, by rw [sI_1, if_neg (by omega)]; exact B.2.2.1.2.2.2.1, by rw [sI_1, if_neg (by omega)]; exact B.2.2.1.2.2.2.2.1, by rw [sI_1, if_pos ⟨rfl, rfl⟩]⟩, B.2.2.2.1, B.2.2.2.2⟩
set_option maxRecDepth 100000 in
theorem TB_p {v : Int32} (B : TB S σ D F b kd i0 ph nx N O C) : TB S σ D F b kd i0 v nx N O (sI C 131 F v) := ⟨MSt_Q (frQ_I (f := F) (by omega)) B.1, MEn_I (by omega) B.2.1, ⟨by rw [sI_1, if_neg (by omega)]; exact B.2.2.1.1, by rw [sI_1, if_neg (by omega)]; exact B.2.2.1.2.1, by rw [sI_1, if_neg (by omega)]; exact B.2.2.1.2.2.1, by rw [sI_1, if_neg (by omega)]; exact B.2.2.1.2.2.2.1, by rw [sI_1, if_pos ⟨rfl, rfl⟩], by rw [sI_1, if_neg (by omega)]; exact B.2.2.1.2.2.2.2.2⟩, B.2.2.2.1, B.2.2.2.2⟩
set_option maxRecDepth 100000 in
theorem TB_u {c : Nat} {v : Option Int32} (hc : c < 6) (B : TB S σ D F b kd i0 ph nx N O C) : TB S σ D F b kd i0 ph nx (upF N c v) O (sJ C 136 (6 * F + c) (e_V v)) := ⟨MSt_Q (frQ_J (f := F) (by omega)) B.1, MEn_k ⟨fun _ => rfl, fun _ => rfl, fun _ => rfl, fun j => by rw [sJ_2, if_neg (by omega)]⟩ (fun _ _ => rfl) B.2.1, B.2.2.1, fun q hq => by
    rw [sJ_2]
    unfold upF
    by_cases e : q = c
    · rw [if_pos ⟨rfl, by omega⟩, if_pos e]
    · rw [if_neg (by omega), if_neg e]
      exact B.2.2.2.1 q hq, fun q hq => by rw [sJ_2, if_neg (by omega)]; exact B.2.2.2.2 q hq⟩
set_option maxRecDepth 100000 in
theorem m_265_0 (hF : F < 40) (h : C.1 131 F = 0) (hc : Wd L xs (d + 6) y_266 (0, [(0, .ref 176), (1, .int (nI (F))), (2, .int 0)], [], MH C t, 0) (QR t R) nX) : Wd L xs (d + 7) y_265 (0, [(0, .ref 176), (1, .int (nI (F)))], [], MH C t, 0) (QR t R) nX := by
  refine w_p (pc1 := 1) rfl rfl ?_
  refine w_m0 (pc1 := 4) rfl rfl (h_gC rfl rfl rfl rfl) rfl ?_
  refine w_p (pc1 := 5) rfl rfl ?_
  refine w_m0 (pc1 := 6) (st1 := .int 0 :: _) rfl rfl (n_ile (e := F) rfl rfl rfl (by omega) (h)) rfl ?_
  refine w_p (pc1 := 40) rfl rfl ?_
  refine w_p (pc1 := 41) rfl rfl ?_
  refine w_p (pc1 := 42) rfl rfl ?_
  refine w_p (pc1 := 43) rfl rfl ?_
  refine w_m0 (pc1 := 46) rfl rfl (h_gC rfl rfl rfl rfl) rfl ?_
  refine w_p (pc1 := 47) rfl rfl ?_
  refine w_m0 (pc1 := 48) (st1 := .int 0 :: _) rfl rfl (n_ile (e := F) rfl rfl rfl (by omega) (h)) rfl ?_
  refine w_f (a := 55) (b := 51) rfl rfl rfl ?_
  refine w_p (pc1 := 52) (st1 := .int 0 :: _) rfl rfl ?_
  refine w_p (pc1 := 56) rfl rfl ?_
  refine w_ji (pc1 := 59) (vs := [.ref 176, .int (nI (F)), .int 0]) (rest := []) (hc) rfl rfl rfl (fun _ _ => rfl) rfl (by exact cl_v my_266 rfl rfl rfl (Nat.le_of_ble_eq_true rfl) rfl (MH_obj rfl rfl) rfl (by decide) rfl rfl) (by rfl) (Nat.le_of_ble_eq_true rfl) (Nat.le_of_ble_eq_true rfl) rfl (fun v h m hq => ?_) (fun _ _ _ e => e.elim)
  obtain ⟨rfl, ⟨C1, hR, rfl⟩, rfl⟩ := hq
  refine w_p (pc1 := 83) rfl rfl ?_
  refine w_r rfl rfl rfl (fun _ _ => rfl) rfl ?_
  exact ⟨rfl, ⟨C1, hR, rfl⟩, rfl⟩
set_option maxRecDepth 100000 in
theorem m_265_4 (hF : F < 40) (h : C.1 131 F = 4) (hc : Wd L xs (d + 6) y_266 (0, [(0, .ref 176), (1, .int (nI (F))), (2, .int 1)], [], MH C t, 0) (QR t R) nX) : Wd L xs (d + 7) y_265 (0, [(0, .ref 176), (1, .int (nI (F)))], [], MH C t, 0) (QR t R) nX := by
  refine w_p (pc1 := 1) rfl rfl ?_
  refine w_m0 (pc1 := 4) rfl rfl (h_gC rfl rfl rfl rfl) rfl ?_
  refine w_p (pc1 := 5) rfl rfl ?_
  refine w_m0 (pc1 := 6) (st1 := .int 4 :: _) rfl rfl (n_ile (e := F) rfl rfl rfl (by omega) (h)) rfl ?_
  refine w_p (pc1 := 40) rfl rfl ?_
  refine w_p (pc1 := 41) rfl rfl ?_
  refine w_p (pc1 := 42) rfl rfl ?_
  refine w_p (pc1 := 43) rfl rfl ?_
  refine w_m0 (pc1 := 46) rfl rfl (h_gC rfl rfl rfl rfl) rfl ?_
  refine w_p (pc1 := 47) rfl rfl ?_
  refine w_m0 (pc1 := 48) (st1 := .int 4 :: _) rfl rfl (n_ile (e := F) rfl rfl rfl (by omega) (h)) rfl ?_
  refine w_t (a := 55) (b := 51) rfl rfl rfl ?_
  refine w_p (pc1 := 56) (st1 := .int 1 :: _) rfl rfl ?_
  refine w_ji (pc1 := 59) (vs := [.ref 176, .int (nI (F)), .int 1]) (rest := []) (hc) rfl rfl rfl (fun _ _ => rfl) rfl (by exact cl_v my_266 rfl rfl rfl (Nat.le_of_ble_eq_true rfl) rfl (MH_obj rfl rfl) rfl (by decide) rfl rfl) (by rfl) (Nat.le_of_ble_eq_true rfl) (Nat.le_of_ble_eq_true rfl) rfl (fun v h m hq => ?_) (fun _ _ _ e => e.elim)
  obtain ⟨rfl, ⟨C1, hR, rfl⟩, rfl⟩ := hq
  refine w_p (pc1 := 83) rfl rfl ?_
  refine w_r rfl rfl rfl (fun _ _ => rfl) rfl ?_
  exact ⟨rfl, ⟨C1, hR, rfl⟩, rfl⟩
set_option maxRecDepth 100000 in
theorem m_265_1 (hF : F < 40) (h : C.1 131 F = 1) (hc : Wd L xs (d + 6) y_267 (0, [(0, .ref 176), (1, .int (nI (F)))], [], MH C t, 0) (QR t R) nX) : Wd L xs (d + 7) y_265 (0, [(0, .ref 176), (1, .int (nI (F)))], [], MH C t, 0) (QR t R) nX := by
  refine w_p (pc1 := 1) rfl rfl ?_
  refine w_m0 (pc1 := 4) rfl rfl (h_gC rfl rfl rfl rfl) rfl ?_
  refine w_p (pc1 := 5) rfl rfl ?_
  refine w_m0 (pc1 := 6) (st1 := .int 1 :: _) rfl rfl (n_ile (e := F) rfl rfl rfl (by omega) (h)) rfl ?_
  refine w_p (pc1 := 62) rfl rfl ?_
  refine w_p (pc1 := 63) rfl rfl ?_
  refine w_p (pc1 := 64) rfl rfl ?_
  refine w_ji (pc1 := 67) (vs := [.ref 176, .int (nI (F))]) (rest := []) (hc) rfl rfl rfl (fun _ _ => rfl) rfl (by exact cl_v my_267 rfl rfl rfl (Nat.le_of_ble_eq_true rfl) rfl (MH_obj rfl rfl) rfl (by decide) rfl rfl) (by rfl) (Nat.le_of_ble_eq_true rfl) (Nat.le_of_ble_eq_true rfl) rfl (fun v h m hq => ?_) (fun _ _ _ e => e.elim)
  obtain ⟨rfl, ⟨C1, hR, rfl⟩, rfl⟩ := hq
  refine w_p (pc1 := 83) rfl rfl ?_
  refine w_r rfl rfl rfl (fun _ _ => rfl) rfl ?_
  exact ⟨rfl, ⟨C1, hR, rfl⟩, rfl⟩
set_option maxRecDepth 100000 in
theorem m_265_2 (hF : F < 40) (h : C.1 131 F = 2) (hc : Wd L xs (d + 6) y_269 (0, [(0, .ref 176), (1, .int (nI (F)))], [], MH C t, 0) (QR t R) nX) : Wd L xs (d + 7) y_265 (0, [(0, .ref 176), (1, .int (nI (F)))], [], MH C t, 0) (QR t R) nX := by
  refine w_p (pc1 := 1) rfl rfl ?_
  refine w_m0 (pc1 := 4) rfl rfl (h_gC rfl rfl rfl rfl) rfl ?_
  refine w_p (pc1 := 5) rfl rfl ?_
  refine w_m0 (pc1 := 6) (st1 := .int 2 :: _) rfl rfl (n_ile (e := F) rfl rfl rfl (by omega) (h)) rfl ?_
  refine w_p (pc1 := 70) rfl rfl ?_
  refine w_p (pc1 := 71) rfl rfl ?_
  refine w_p (pc1 := 72) rfl rfl ?_
  refine w_ji (pc1 := 75) (vs := [.ref 176, .int (nI (F))]) (rest := []) (hc) rfl rfl rfl (fun _ _ => rfl) rfl (by exact cl_v my_269 rfl rfl rfl (Nat.le_of_ble_eq_true rfl) rfl (MH_obj rfl rfl) rfl (by decide) rfl rfl) (by rfl) (Nat.le_of_ble_eq_true rfl) (Nat.le_of_ble_eq_true rfl) rfl (fun v h m hq => ?_) (fun _ _ _ e => e.elim)
  obtain ⟨rfl, ⟨C1, hR, rfl⟩, rfl⟩ := hq
  refine w_p (pc1 := 83) rfl rfl ?_
  refine w_r rfl rfl rfl (fun _ _ => rfl) rfl ?_
  exact ⟨rfl, ⟨C1, hR, rfl⟩, rfl⟩
set_option maxRecDepth 100000 in
theorem m_265_3 (hF : F < 40) (h : C.1 131 F = 3) (hc : Wd L xs (d + 6) y_272 (0, [(0, .ref 176), (1, .int (nI (F)))], [], MH C t, 0) (QR t R) nX) : Wd L xs (d + 7) y_265 (0, [(0, .ref 176), (1, .int (nI (F)))], [], MH C t, 0) (QR t R) nX := by
  refine w_p (pc1 := 1) rfl rfl ?_
  refine w_m0 (pc1 := 4) rfl rfl (h_gC rfl rfl rfl rfl) rfl ?_
  refine w_p (pc1 := 5) rfl rfl ?_
  refine w_m0 (pc1 := 6) (st1 := .int 3 :: _) rfl rfl (n_ile (e := F) rfl rfl rfl (by omega) (h)) rfl ?_
  refine w_p (pc1 := 78) rfl rfl ?_
  refine w_p (pc1 := 79) rfl rfl ?_
  refine w_p (pc1 := 80) rfl rfl ?_
  refine w_ji (pc1 := 83) (vs := [.ref 176, .int (nI (F))]) (rest := []) (hc) rfl rfl rfl (fun _ _ => rfl) rfl (by exact cl_v my_272 rfl rfl rfl (Nat.le_of_ble_eq_true rfl) rfl (MH_obj rfl rfl) rfl (by decide) rfl rfl) (by rfl) (Nat.le_of_ble_eq_true rfl) (Nat.le_of_ble_eq_true rfl) rfl (fun v h m hq => ?_) (fun _ _ _ e => e.elim)
  obtain ⟨rfl, ⟨C1, hR, rfl⟩, rfl⟩ := hq
  refine w_r rfl rfl rfl (fun _ _ => rfl) rfl ?_
  exact ⟨rfl, ⟨C1, hR, rfl⟩, rfl⟩
set_option maxRecDepth 100000 in
theorem m_266e0 (hF : F < 40) (hs : C.1 132 F = nI 8) : Wd L xs d y_266 (0, [(0, .ref 176), (1, .int (nI (F))), (2, .int 0)], [], MH C t, 0) (QR t (fun C' => sI C 131 F 1 = C')) nX := by
  refine w_p (pc1 := 1) rfl rfl ?_
  refine w_m0 (pc1 := 4) rfl rfl (h_gC rfl rfl rfl rfl) rfl ?_
  refine w_p (pc1 := 5) rfl rfl ?_
  refine w_m0 (pc1 := 6) (st1 := .int (nI (8)) :: _) rfl rfl (n_ile (e := F) rfl rfl rfl (by omega) (hs)) rfl ?_
  refine w_p (pc1 := 7) (al1 := [(3, .int (nI (8))), (0, .ref 176), (1, .int (nI (F))), (2, .int 0)]) rfl rfl ?_
  refine w_p (pc1 := 8) rfl rfl ?_
  refine w_p (pc1 := 10) (st1 := .int 8 :: _) rfl rfl ?_
  refine w_f (a := 48) (b := 13) (bN_ne_f (a := 8) (b := 8) (by omega) (by omega) (by omega)) rfl rfl ?_
  refine w_p (pc1 := 14) rfl rfl ?_
  refine w_f (a := 27) (b := 17) rfl rfl rfl ?_
  refine w_p (pc1 := 18) rfl rfl ?_
  refine w_m0 (pc1 := 21) rfl rfl (h_gC rfl rfl rfl rfl) rfl ?_
  refine w_p (pc1 := 22) rfl rfl ?_
  refine w_p (pc1 := 23) (st1 := .int 1 :: _) rfl rfl ?_
  refine w_m0 (pc1 := 24) rfl rfl (n_is (e := F) rfl rfl rfl (by omega)) rfl ?_
  refine w_p (pc1 := 47) rfl rfl ?_
  refine w_r rfl rfl rfl (fun _ _ => rfl) rfl ?_
  exact ⟨rfl, ⟨_, rfl, rfl⟩, rfl⟩
set_option maxRecDepth 100000 in
theorem m_266e1 (hF : F < 40) (hs : C.1 132 F = nI 8) (h75 : C.1 76 75 = nI (F + 1)) (h94 : C.1 76 94 = nI (D + 1)) : Wd L xs d y_266 (0, [(0, .ref 176), (1, .int (nI (F))), (2, .int 1)], [], MH C t, 0) (QR t (fun C' => sI (sI C 76 75 (nI F)) 76 94 (nI D) = C')) nX := by
  refine w_p (pc1 := 1) rfl rfl ?_
  refine w_m0 (pc1 := 4) rfl rfl (h_gC rfl rfl rfl rfl) rfl ?_
  refine w_p (pc1 := 5) rfl rfl ?_
  refine w_m0 (pc1 := 6) (st1 := .int (nI (8)) :: _) rfl rfl (n_ile (e := F) rfl rfl rfl (by omega) (hs)) rfl ?_
  refine w_p (pc1 := 7) (al1 := [(3, .int (nI (8))), (0, .ref 176), (1, .int (nI (F))), (2, .int 1)]) rfl rfl ?_
  refine w_p (pc1 := 8) rfl rfl ?_
  refine w_p (pc1 := 10) (st1 := .int 8 :: _) rfl rfl ?_
  refine w_f (a := 48) (b := 13) (bN_ne_f (a := 8) (b := 8) (by omega) (by omega) (by omega)) rfl rfl ?_
  refine w_p (pc1 := 14) rfl rfl ?_
  refine w_t (a := 27) (b := 17) rfl rfl rfl ?_
  refine w_p (pc1 := 28) rfl rfl ?_
  refine w_p (pc1 := 29) rfl rfl ?_
  refine w_m0 (pc1 := 32) (st1 := .int (nI (F + 1)) :: _) rfl rfl (h_gIe (j := 75) rfl rfl rfl rfl rfl (h75)) rfl ?_
  refine w_p (pc1 := 33) (st1 := .int 1 :: _) rfl rfl ?_
  refine w_isub (pc1 := 34) (z := nI (F)) rfl (nK_s) rfl ?_
  refine w_m0 (pc1 := 37) rfl rfl (h_pI (j := 75) rfl rfl rfl rfl rfl rfl rfl ⟨rfl, rfl⟩ rfl) rfl ?_
  refine w_p (pc1 := 38) rfl rfl ?_
  refine w_p (pc1 := 39) rfl rfl ?_
  refine w_m0 (pc1 := 42) (st1 := .int (nI (D + 1)) :: _) rfl rfl (h_gIe (j := 94) rfl rfl rfl rfl rfl (h94)) rfl ?_
  refine w_p (pc1 := 43) (st1 := .int 1 :: _) rfl rfl ?_
  refine w_isub (pc1 := 44) (z := nI (D)) rfl (nK_s) rfl ?_
  refine w_m0 (pc1 := 47) rfl rfl (h_pI (j := 94) rfl rfl rfl rfl rfl rfl rfl ⟨rfl, rfl⟩ rfl) rfl ?_
  refine w_r rfl rfl rfl (fun _ _ => rfl) rfl ?_
  exact ⟨rfl, ⟨_, rfl, rfl⟩, rfl⟩
set_option maxRecDepth 100000 in
theorem tr175 (hg : g < 8) (hF : F < 39) (hb : b < 6) (hkd : kd < 3) (ho : okSt S) (hok : okA2 (sWd S) (sWd S b) (wN (sWd S) b kd) (wO (sWd S) b kd) (gAc G)) (hT : TRM C g G) (B : TB S σ D F b kd i0 ph (nI (g + 1)) N O C) (q0 : frQ F C0 C) (hf : fir1 S (stp S m) b ti kd O g (N, σ) = act1 S (stp S m) O (gAc G) (N, σ)) : Wd L xs (d + 6) y_266 (175, [(4, .int 1), (3, .int (nI (g))), (0, .ref 176), (1, .int (nI (F))), (2, .int (nI (ti)))], [], MH C t, 0) (QR t (TRd S m b kd ti i0 O N σ D F g ph C0)) nX := by
  have hw := w3k6 (kd := kd) ho hb
  obtain ⟨K, E, hs, hN, hO⟩ := id B
  have ha := hT.1.2.2.2.1
  have w2s : wN (sWd S) b kd ≤ sWd S b := by unfold wN; split <;> omega
  have w3s : wO (sWd S) b kd ≤ w3k (sWd S) kd b := Nat.le_refl _
  have hEv : envM C 0 F 0 (wN (sWd S) b kd) (wO (sWd S) b kd) noF N O := ⟨⟨by omega, fun c hc => absurd hc (by omega)⟩, ⟨by omega, by omega, by omega⟩, fun c hc => hN c (by omega), fun c hc => hO c (by omega)⟩
  have hact : aKd (gAc G) < 3 ∨ aKd (gAc G) = 3 ∨ aKd (gAc G) = 4 := by
    rcases hok with ⟨h, _⟩ | ⟨h, _⟩ | ⟨h, _⟩ | ⟨h, _⟩ | ⟨h, _⟩ <;> omega
  rcases hact with h3 | h3 | h3
  · have e2 : act1 S (stp S m) O (gAc G) (N, σ) = ((N, (chg S (stp S m) (gAc G) N O σ).1), (chg S (stp S m) (gAc G) N O σ).2) := by unfold act1; rw [if_neg (by omega), if_neg (by omega)]
    have A := hT.2.2.1 h3
    have hbc := bcA (L := L) (xs := xs) (t := t) (d := d + 1) (sl := 0) (row := F) (N := N) (O := O) E.2.2.2.2.1.1 (by omega) (by omega) E.1 E.2.2.2.2.2.1 E.2.2.2.2.2.2 A h3 hok (Or.inl (by omega)) (by omega) (by omega) (fun c hc => hN c (by omega)) (fun c hc => hO c (by omega))
    refine w_p (pc1 := 176) rfl rfl ?_
    refine w_m0 (pc1 := 179) rfl rfl (h_gC rfl rfl rfl rfl) rfl ?_
    refine w_p (pc1 := 180) rfl rfl ?_
    refine w_m0 (pc1 := 181) (st1 := .int (nI (aKd (gAc G))) :: _) rfl rfl (n_ile (e := g) rfl rfl rfl (by omega) (ha)) rfl ?_
    refine w_p (pc1 := 182) (st1 := .int 4 :: _) rfl rfl ?_
    refine w_t (a := 203) (b := 185) (bN_ne_t (a := aKd (gAc G)) (b := 4) (by omega) (by omega) (by omega)) rfl rfl ?_
    refine w_p (pc1 := 204) rfl rfl ?_
    refine w_m0 (pc1 := 207) rfl rfl (h_gC rfl rfl rfl rfl) rfl ?_
    refine w_p (pc1 := 208) rfl rfl ?_
    refine w_m0 (pc1 := 209) (st1 := .int (nI (aKd (gAc G))) :: _) rfl rfl (n_ile (e := g) rfl rfl rfl (by omega) (ha)) rfl ?_
    refine w_p (pc1 := 210) (st1 := .int 3 :: _) rfl rfl ?_
    refine w_t (a := 269) (b := 213) (bN_ne_t (a := aKd (gAc G)) (b := 3) (by omega) (by omega) (by omega)) rfl rfl ?_
    refine w_p (pc1 := 270) rfl rfl ?_
    refine w_p (pc1 := 272) (st1 := .int 32 :: _) rfl rfl ?_
    refine w_p (pc1 := 273) rfl rfl ?_
    refine w_iadd (pc1 := 274) (u := nI (32)) (v := nI (g)) (z := nI (32 + g)) rfl (nK_add) rfl ?_
    refine w_p (pc1 := 275) rfl rfl ?_
    refine w_ji (pc1 := 278) (vs := [.ref 176, .int (nI (32 + g)), .int (nI (F))]) (rest := []) (hbc) rfl rfl rfl (fun _ _ => rfl) rfl (by exact cl_v my_250 rfl rfl rfl (Nat.le_of_ble_eq_true rfl) rfl (MH_obj rfl rfl) rfl (by decide) rfl rfl) (by rfl) (Nat.le_of_ble_eq_true rfl) (Nat.le_of_ble_eq_true rfl) rfl (fun v h m hq => ?_) (fun _ _ _ e => e.elim)
    obtain ⟨rfl, ⟨C2, hR, rfl⟩, rfl⟩ := hq
    refine w_r rfl rfl rfl (fun _ _ => rfl) rfl ?_
    exact ⟨rfl, ⟨C2, Or.inr (Or.inr ⟨gAc G, _, _, C, hf.trans e2, h3, hok, ⟨w2s, w3s⟩, A, B, q0, hR⟩), rfl⟩, rfl⟩
  · obtain ⟨c, l, hcs, hss, hc0, hol⟩ : ∃ c l, aCs (gAc G) = [c] ∧ aSs (gAc G) = [some l] ∧ c < sWd S b ∧ okS 0 (wN (sWd S) b kd) (wO (sWd S) b kd) (some l) := by
      rcases hok with ⟨h, _⟩ | ⟨h, _⟩ | ⟨h, _⟩ | ⟨h, _, hh⟩ | ⟨h, _⟩
      · omega
      · omega
      · omega
      · exact hh
      · omega
    obtain ⟨t1, t2, t3⟩ := hT.2.2.2.1 c l h3 hcs hss
    rw [h3] at ha
    have e2 : act1 S (stp S m) O (gAc G) (N, σ) = match smv noF N O (some l) with | none => ((N, σ), some byZ) | some v => ((upF N c v, σ), none) := by unfold act1; rw [if_neg (by omega), if_pos h3, hcs, hss]; rfl
    have hwk := m_251 (L := L) (xs := xs) (t := t) (d := d + 2) (sl := 0) (g := false) (z := false) (p := 32 + g) (a := 0) (e := l.length) (l := l) (by omega) (by have := hol.1; omega) (Nat.zero_add _) t3 hEv hol.2 E.2.2.2.2.2.2
    obtain ⟨bv, hbv⟩ := fl_sum (R := noF) (N := N) (O := O) hol.2
    have hv : rsM (f_l true noF N O l []) = e_V bv := by rw [hbv]; rfl
    have e1 : smv noF N O (some l) = match f_l false noF N O l [] with | none => none | some st => (match st with | .inl v :: _ => some v | _ => some none) := rfl
    cases hfl : f_l false noF N O l [] with
    | none =>
      have hsm : smv noF N O (some l) = none := by rw [e1, hfl]
      rw [hsm] at e2
      refine w_p (pc1 := 176) rfl rfl ?_
      refine w_m0 (pc1 := 179) rfl rfl (h_gC rfl rfl rfl rfl) rfl ?_
      refine w_p (pc1 := 180) rfl rfl ?_
      refine w_m0 (pc1 := 181) (st1 := .int 3 :: _) rfl rfl (n_ile (e := g) rfl rfl rfl (by omega) (ha)) rfl ?_
      refine w_p (pc1 := 182) (st1 := .int 4 :: _) rfl rfl ?_
      refine w_t (a := 203) (b := 185) rfl rfl rfl ?_
      refine w_p (pc1 := 204) rfl rfl ?_
      refine w_m0 (pc1 := 207) rfl rfl (h_gC rfl rfl rfl rfl) rfl ?_
      refine w_p (pc1 := 208) rfl rfl ?_
      refine w_m0 (pc1 := 209) (st1 := .int 3 :: _) rfl rfl (n_ile (e := g) rfl rfl rfl (by omega) (ha)) rfl ?_
      refine w_p (pc1 := 210) (st1 := .int 3 :: _) rfl rfl ?_
      refine w_f (a := 269) (b := 213) rfl rfl rfl ?_
      refine w_p (pc1 := 214) rfl rfl ?_
      refine w_p (pc1 := 216) (st1 := .int 32 :: _) rfl rfl ?_
      refine w_p (pc1 := 217) rfl rfl ?_
      refine w_iadd (pc1 := 218) (u := nI (32)) (v := nI (g)) (z := nI (32 + g)) rfl (nK_add) rfl ?_
      refine w_p (pc1 := 219) (st1 := .int 0 :: _) rfl rfl ?_
      refine w_p (pc1 := 220) rfl rfl ?_
      refine w_m0 (pc1 := 223) rfl rfl (h_gC rfl rfl rfl rfl) rfl ?_
      refine w_p (pc1 := 225) (st1 := .int 32 :: _) rfl rfl ?_
      refine w_p (pc1 := 226) rfl rfl ?_
      refine w_iadd (pc1 := 227) (u := nI (32)) (v := nI (g)) (z := nI (32 + g)) rfl (nK_add) rfl ?_
      refine w_m0 (pc1 := 228) (st1 := .int (nI (l.length)) :: _) rfl rfl (n_ile (e := 32 + g) rfl rfl rfl (by omega) (t2)) rfl ?_
      refine w_p (pc1 := 229) (st1 := .int 0 :: _) rfl rfl ?_
      refine w_p (pc1 := 230) rfl rfl ?_
      refine w_p (pc1 := 231) (st1 := .int 0 :: _) rfl rfl ?_
      refine w_ji (pc1 := 234) (vs := [.ref 176, .int (nI (32 + g)), .int 0, .int (nI (l.length)), .int 0, .int (nI (F)), .int 0]) (rest := []) (hwk) rfl rfl rfl (fun _ _ => rfl) rfl (by exact cl_v my_251 rfl rfl rfl (Nat.le_of_ble_eq_true rfl) rfl (MH_obj rfl rfl) rfl (by decide) rfl rfl) (by rfl) (Nat.le_of_ble_eq_true rfl) (Nat.le_of_ble_eq_true rfl) rfl (fun v h m hq => ?_) (fun _ _ _ e => e.elim)
      obtain ⟨rfl, ⟨C1, ⟨f1, f2⟩, rfl⟩, rfl⟩ := hq
      rw [hv]
      have f1 : C1.1 76 74 = 1 := by rw [f1, hfl]; rfl
      have h89 : C1.1 76 89 = 0 := (f2.1 76 89 (by omega)).trans E.2.2.2.2.2.1
      have hc2 : (sI C1 76 89 4).1 102 g = nI c := by rw [sI_1, if_neg (by omega), f2.1 102 g (by omega)]; exact t1
      refine w_p (pc1 := 236) (al1 := [(5, .long (e_V bv)), (4, .int 1), (3, .int (nI (g))), (0, .ref 176), (1, .int (nI (F))), (2, .int (nI (ti)))]) rfl rfl ?_
      refine w_p (pc1 := 237) rfl rfl ?_
      refine w_m0 (pc1 := 240) (st1 := .int 1 :: _) rfl rfl (h_gIe (j := 74) rfl rfl rfl rfl rfl (f1)) rfl ?_
      refine w_f (a := 248) (b := 243) rfl rfl rfl ?_
      refine w_p (pc1 := 244) rfl rfl ?_
      refine w_p (pc1 := 245) (st1 := .int 4 :: _) rfl rfl ?_
      refine w_je (pc1 := 248) (vs := [.ref 176, .int 4]) (rest := []) (st1 := []) (m_256 (d := d + 5) (sl := 0) h89) rfl rfl rfl (fun _ _ => rfl) rfl (by exact cl_v my_256 rfl rfl rfl (Nat.le_of_ble_eq_true rfl) rfl (MH_obj rfl rfl) rfl (by decide) rfl rfl) (by rfl) (Nat.le_of_ble_eq_true rfl) (Nat.le_of_ble_eq_true rfl) rfl (by rfl) ?_
      refine w_p (pc1 := 249) rfl rfl ?_
      refine w_m0 (pc1 := 252) rfl rfl (h_gC rfl rfl rfl rfl) rfl ?_
      refine w_p (pc1 := 254) (st1 := .int 6 :: _) rfl rfl ?_
      refine w_p (pc1 := 255) rfl rfl ?_
      refine w_imul (pc1 := 256) (u := nI (6)) (v := nI (F)) (z := nI (6 * F)) rfl (nK_mul) rfl ?_
      refine w_p (pc1 := 257) rfl rfl ?_
      refine w_m0 (pc1 := 260) rfl rfl (h_gC rfl rfl rfl rfl) rfl ?_
      refine w_p (pc1 := 261) rfl rfl ?_
      refine w_m0 (pc1 := 262) (st1 := .int (nI (c)) :: _) rfl rfl (n_ile (e := g) rfl rfl rfl (by omega) (hc2)) rfl ?_
      refine w_iadd (pc1 := 263) (u := nI (6 * F)) (v := nI (c)) (z := nI (6 * F + c)) rfl (nK_add) rfl ?_
      refine w_p (pc1 := 265) rfl rfl ?_
      refine w_m0 (pc1 := 266) rfl rfl (n_ls (e := 6 * F + c) rfl rfl rfl (by omega)) rfl ?_
      refine w_p (pc1 := 278) rfl rfl ?_
      refine w_r rfl rfl rfl (fun _ _ => rfl) rfl ?_
      have X1 := E.2.2.1
      have h9 : (sJ (sI C1 76 89 4) 136 (6 * F + c) (e_V bv)).1 76 89 = 4 := rfl
      exact ⟨rfl, ⟨sJ (sI C1 76 89 4) 136 (6 * F + c) (e_V bv), Or.inr (Or.inl ⟨byZ, hf.trans e2, by rw [h9]; decide, ⟨(f2.1 76 93 (by omega)).trans X1.1, X1.2.1, (f2.1 76 95 (by omega)).trans X1.2.2.1, X1.2.2.2⟩, ⟨h9, fun h => absurd h (by decide), fun h => absurd h (by decide)⟩, ⟨true, f1⟩, frQ_t q0 (frQ_t (frQ_W f2) (frQ_t (frQ_I (by omega)) (frQ_J (by omega))))⟩), rfl⟩, rfl⟩
    | some st =>
      have hv3 := fl_t l [] st hfl
      rw [hbv] at hv3
      cases hv3
      have hsm : smv noF N O (some l) = some bv := by rw [e1, hfl]
      rw [hsm] at e2
      refine w_p (pc1 := 176) rfl rfl ?_
      refine w_m0 (pc1 := 179) rfl rfl (h_gC rfl rfl rfl rfl) rfl ?_
      refine w_p (pc1 := 180) rfl rfl ?_
      refine w_m0 (pc1 := 181) (st1 := .int 3 :: _) rfl rfl (n_ile (e := g) rfl rfl rfl (by omega) (ha)) rfl ?_
      refine w_p (pc1 := 182) (st1 := .int 4 :: _) rfl rfl ?_
      refine w_t (a := 203) (b := 185) rfl rfl rfl ?_
      refine w_p (pc1 := 204) rfl rfl ?_
      refine w_m0 (pc1 := 207) rfl rfl (h_gC rfl rfl rfl rfl) rfl ?_
      refine w_p (pc1 := 208) rfl rfl ?_
      refine w_m0 (pc1 := 209) (st1 := .int 3 :: _) rfl rfl (n_ile (e := g) rfl rfl rfl (by omega) (ha)) rfl ?_
      refine w_p (pc1 := 210) (st1 := .int 3 :: _) rfl rfl ?_
      refine w_f (a := 269) (b := 213) rfl rfl rfl ?_
      refine w_p (pc1 := 214) rfl rfl ?_
      refine w_p (pc1 := 216) (st1 := .int 32 :: _) rfl rfl ?_
      refine w_p (pc1 := 217) rfl rfl ?_
      refine w_iadd (pc1 := 218) (u := nI (32)) (v := nI (g)) (z := nI (32 + g)) rfl (nK_add) rfl ?_
      refine w_p (pc1 := 219) (st1 := .int 0 :: _) rfl rfl ?_
      refine w_p (pc1 := 220) rfl rfl ?_
      refine w_m0 (pc1 := 223) rfl rfl (h_gC rfl rfl rfl rfl) rfl ?_
      refine w_p (pc1 := 225) (st1 := .int 32 :: _) rfl rfl ?_
      refine w_p (pc1 := 226) rfl rfl ?_
      refine w_iadd (pc1 := 227) (u := nI (32)) (v := nI (g)) (z := nI (32 + g)) rfl (nK_add) rfl ?_
      refine w_m0 (pc1 := 228) (st1 := .int (nI (l.length)) :: _) rfl rfl (n_ile (e := 32 + g) rfl rfl rfl (by omega) (t2)) rfl ?_
      refine w_p (pc1 := 229) (st1 := .int 0 :: _) rfl rfl ?_
      refine w_p (pc1 := 230) rfl rfl ?_
      refine w_p (pc1 := 231) (st1 := .int 0 :: _) rfl rfl ?_
      refine w_ji (pc1 := 234) (vs := [.ref 176, .int (nI (32 + g)), .int 0, .int (nI (l.length)), .int 0, .int (nI (F)), .int 0]) (rest := []) (hwk) rfl rfl rfl (fun _ _ => rfl) rfl (by exact cl_v my_251 rfl rfl rfl (Nat.le_of_ble_eq_true rfl) rfl (MH_obj rfl rfl) rfl (by decide) rfl rfl) (by rfl) (Nat.le_of_ble_eq_true rfl) (Nat.le_of_ble_eq_true rfl) rfl (fun v h m hq => ?_) (fun _ _ _ e => e.elim)
      obtain ⟨rfl, ⟨C1, ⟨f1, f2⟩, rfl⟩, rfl⟩ := hq
      rw [hv]
      have f1 : C1.1 76 74 = 0 := by rw [f1, hfl]; rfl
      have hc2 : C1.1 102 g = nI c := (f2.1 102 g (by omega)).trans t1
      refine w_p (pc1 := 236) (al1 := [(5, .long (e_V bv)), (4, .int 1), (3, .int (nI (g))), (0, .ref 176), (1, .int (nI (F))), (2, .int (nI (ti)))]) rfl rfl ?_
      refine w_p (pc1 := 237) rfl rfl ?_
      refine w_m0 (pc1 := 240) (st1 := .int 0 :: _) rfl rfl (h_gIe (j := 74) rfl rfl rfl rfl rfl (f1)) rfl ?_
      refine w_t (a := 248) (b := 243) rfl rfl rfl ?_
      refine w_p (pc1 := 249) rfl rfl ?_
      refine w_m0 (pc1 := 252) rfl rfl (h_gC rfl rfl rfl rfl) rfl ?_
      refine w_p (pc1 := 254) (st1 := .int 6 :: _) rfl rfl ?_
      refine w_p (pc1 := 255) rfl rfl ?_
      refine w_imul (pc1 := 256) (u := nI (6)) (v := nI (F)) (z := nI (6 * F)) rfl (nK_mul) rfl ?_
      refine w_p (pc1 := 257) rfl rfl ?_
      refine w_m0 (pc1 := 260) rfl rfl (h_gC rfl rfl rfl rfl) rfl ?_
      refine w_p (pc1 := 261) rfl rfl ?_
      refine w_m0 (pc1 := 262) (st1 := .int (nI (c)) :: _) rfl rfl (n_ile (e := g) rfl rfl rfl (by omega) (hc2)) rfl ?_
      refine w_iadd (pc1 := 263) (u := nI (6 * F)) (v := nI (c)) (z := nI (6 * F + c)) rfl (nK_add) rfl ?_
      refine w_p (pc1 := 265) rfl rfl ?_
      refine w_m0 (pc1 := 266) rfl rfl (n_ls (e := 6 * F + c) rfl rfl rfl (by omega)) rfl ?_
      refine w_p (pc1 := 278) rfl rfl ?_
      refine w_r rfl rfl rfl (fun _ _ => rfl) rfl ?_
      exact ⟨rfl, ⟨sJ C1 136 (6 * F + c) (e_V bv), Or.inl ⟨upF N c bv, hf.trans e2, TB_u (by omega) (TB_W f2 f1 B), frQ_t q0 (frQ_t (frQ_W f2) (frQ_J (by omega)))⟩, rfl⟩, rfl⟩
  · have e2 : act1 S (stp S m) O (gAc G) (N, σ) = ((N, σ), some (3, aNo (gAc G), 0)) := by unfold act1; rw [if_pos h3]
    rw [h3] at ha
    have h92 := hT.2.2.2.2 h3
    have h89 : (sJ C 76 92 (C.2.1 103 g)).1 76 89 = 0 := E.2.2.2.2.2.1
    refine w_p (pc1 := 176) rfl rfl ?_
    refine w_m0 (pc1 := 179) rfl rfl (h_gC rfl rfl rfl rfl) rfl ?_
    refine w_p (pc1 := 180) rfl rfl ?_
    refine w_m0 (pc1 := 181) (st1 := .int 4 :: _) rfl rfl (n_ile (e := g) rfl rfl rfl (by omega) (ha)) rfl ?_
    refine w_p (pc1 := 182) (st1 := .int 4 :: _) rfl rfl ?_
    refine w_f (a := 203) (b := 185) rfl rfl rfl ?_
    refine w_p (pc1 := 186) rfl rfl ?_
    refine w_p (pc1 := 187) rfl rfl ?_
    refine w_m0 (pc1 := 190) rfl rfl (h_gC rfl rfl rfl rfl) rfl ?_
    refine w_p (pc1 := 191) rfl rfl ?_
    refine w_m0 (pc1 := 192) (st1 := .long (C.2.1 103 g) :: _) rfl rfl (n_lle (e := g) rfl rfl rfl (by omega) (rfl)) rfl ?_
    refine w_m0 (pc1 := 195) rfl rfl (h_pJ (j := 92) rfl rfl rfl rfl rfl rfl rfl ⟨rfl, rfl⟩ rfl) rfl ?_
    refine w_p (pc1 := 196) rfl rfl ?_
    refine w_p (pc1 := 197) (st1 := .int 3 :: _) rfl rfl ?_
    refine w_je (pc1 := 200) (vs := [.ref 176, .int 3]) (rest := []) (st1 := []) (m_256 (d := d + 5) (sl := 0) h89) rfl rfl rfl (fun _ _ => rfl) rfl (by exact cl_v my_256 rfl rfl rfl (Nat.le_of_ble_eq_true rfl) rfl (MH_obj rfl rfl) rfl (by decide) rfl rfl) (by rfl) (Nat.le_of_ble_eq_true rfl) (Nat.le_of_ble_eq_true rfl) rfl (by rfl) ?_
    refine w_p (pc1 := 278) rfl rfl ?_
    refine w_r rfl rfl rfl (fun _ _ => rfl) rfl ?_
    have h9 : (sI (sJ C 76 92 (C.2.1 103 g)) 76 89 3).1 76 89 = 3 := rfl
    have h0 : (sI (sJ C 76 92 (C.2.1 103 g)) 76 89 3).2.1 76 92 = C.2.1 103 g := rfl
    exact ⟨rfl, ⟨sI (sJ C 76 92 (C.2.1 103 g)) 76 89 3, Or.inr (Or.inl ⟨(3, aNo (gAc G), 0), hf.trans e2, by rw [h9]; decide, E.2.2.1, ⟨h9, fun h => absurd h (by show 3 ≠ 2; decide), fun _ => by rw [h0]; exact h92⟩, ⟨false, E.2.2.2.2.2.2⟩, frQ_t q0 (frQ_t (frQ_J (by omega)) (frQ_I (by omega)))⟩), rfl⟩, rfl⟩
set_option maxRecDepth 100000 in
theorem m_266 (hg : g < 8) (hF : F < 39) (hb : b < 6) (hkd : kd < 3) (hti : ti < 2) (ho : okSt S) (B : TB S σ D F b kd i0 ph (nI g) N O C) : Wd L xs (d + 6) y_266 (0, [(0, .ref 176), (1, .int (nI (F))), (2, .int (nI (ti)))], [], MH C t, 0) (QR t (TRd S m b kd ti i0 O N σ D F g ph C)) nX := by
  have hs := B.2.2.1
  have B1 := TB_n (v := nI (g + 1)) B
  have q1 : frQ F C (sI C 132 F (nI (g + 1))) := frQ_I (by omega)
  generalize hC1 : sI C 132 F (nI (g + 1)) = C1 at B1 q1
  obtain ⟨K, E, s1, hN, hO⟩ := id B1
  have hTr := K.2.2 g hg
  have hw := w3k6 (kd := kd) ho hb
  have e0 : fir1 S (stp S m) b ti kd O g (N, σ) = match sTr S g with | none => ((N, σ), none) | some G => (if gTb G = b ∧ gTi G = ti ∧ gEv G = kd then (match tst noF N O (gWh G) with | none => ((N, σ), some byZ) | some false => ((N, σ), none) | some true => act1 S (stp S m) O (gAc G) (N, σ)) else ((N, σ), none)) := rfl
  cases hG : sTr S g with
  | none =>
    rw [hG] at hTr
    have t0 : C1.1 95 g = 0 := hTr
    have e1 : fir1 S (stp S m) b ti kd O g (N, σ) = ((N, σ), none) := by rw [e0, hG]
    refine w_p (pc1 := 1) rfl rfl ?_
    refine w_m0 (pc1 := 4) rfl rfl (h_gC rfl rfl rfl rfl) rfl ?_
    refine w_p (pc1 := 5) rfl rfl ?_
    refine w_m0 (pc1 := 6) (st1 := .int (nI (g)) :: _) rfl rfl (n_ile (e := F) rfl rfl rfl (by omega) (hs.2.2.2.2.2)) rfl ?_
    refine w_p (pc1 := 7) (al1 := [(3, .int (nI (g))), (0, .ref 176), (1, .int (nI (F))), (2, .int (nI (ti)))]) rfl rfl ?_
    refine w_p (pc1 := 8) rfl rfl ?_
    refine w_p (pc1 := 10) (st1 := .int 8 :: _) rfl rfl ?_
    refine w_t (a := 48) (b := 13) (bN_ne_t (a := g) (b := 8) (by omega) (by omega) (by omega)) rfl rfl ?_
    refine w_p (pc1 := 49) rfl rfl ?_
    refine w_m0 (pc1 := 52) rfl rfl (h_gC rfl rfl rfl rfl) rfl ?_
    refine w_p (pc1 := 53) rfl rfl ?_
    refine w_p (pc1 := 54) rfl rfl ?_
    refine w_m0 (pc1 := 55) (st1 := .int (nI (g)) :: _) rfl rfl (n_ile (e := F) rfl rfl rfl (by omega) (hs.2.2.2.2.2)) rfl ?_
    refine w_p (pc1 := 56) (st1 := .int 1 :: _) rfl rfl ?_
    refine w_iadd (pc1 := 57) (u := nI (g)) (v := nI (1)) (z := nI (g + 1)) rfl (nK_add) rfl ?_
    refine w_m0 (pc1 := 58) rfl rfl (n_is (e := F) rfl rfl rfl (by omega)) rfl ?_
    rw [hC1]
    refine w_p (pc1 := 59) rfl rfl ?_
    refine w_m0 (pc1 := 62) rfl rfl (h_gC rfl rfl rfl rfl) rfl ?_
    refine w_p (pc1 := 63) rfl rfl ?_
    refine w_m0 (pc1 := 64) (st1 := .int 0 :: _) rfl rfl (n_ble (e := g) rfl rfl (by decide) rfl (by omega) (t0)) rfl ?_
    refine w_t (a := 107) (b := 67) rfl rfl rfl ?_
    refine w_r rfl rfl rfl (fun _ _ => rfl) rfl ?_
    exact ⟨rfl, ⟨C1, Or.inl ⟨N, e1, B1, q1⟩, rfl⟩, rfl⟩
  | some G =>
    rw [hG] at hTr
    obtain ⟨t0, hT⟩ : C1.1 95 g = 1 ∧ TRM C1 g G := hTr
    obtain ⟨o1, o2, o3, o4, o5⟩ := ho.2.2 g G hg hG
    by_cases h1 : gTb G = b
    · by_cases h2 : gTi G = ti
      · by_cases h3 : gEv G = kd
        · have e1 : fir1 S (stp S m) b ti kd O g (N, σ) = match tst noF N O (gWh G) with | none => ((N, σ), some byZ) | some false => ((N, σ), none) | some true => act1 S (stp S m) O (gAc G) (N, σ) := by
            rw [e0, hG]
            exact if_pos ⟨h1, h2, h3⟩
          rw [h1, h3] at o4 o5
          have w2s : wN (sWd S) b kd ≤ sWd S b := by unfold wN; split <;> omega
          have w3s : wO (sWd S) b kd ≤ w3k (sWd S) kd b := Nat.le_refl _
          have hEv : envM C1 0 F 0 (wN (sWd S) b kd) (wO (sWd S) b kd) noF N O := ⟨⟨by omega, fun c hc => absurd hc (by omega)⟩, ⟨by omega, by omega, by omega⟩, fun c hc => hN c (by omega), fun c hc => hO c (by omega)⟩
          cases hww : gWh G with
          | none =>
            have tw := hT.2.1
            rw [hww] at tw
            have tw : C1.1 104 g = 0 := tw
            have e2 : fir1 S (stp S m) b ti kd O g (N, σ) = act1 S (stp S m) O (gAc G) (N, σ) := by rw [e1, hww]; rfl
            refine w_p (pc1 := 1) rfl rfl ?_
            refine w_m0 (pc1 := 4) rfl rfl (h_gC rfl rfl rfl rfl) rfl ?_
            refine w_p (pc1 := 5) rfl rfl ?_
            refine w_m0 (pc1 := 6) (st1 := .int (nI (g)) :: _) rfl rfl (n_ile (e := F) rfl rfl rfl (by omega) (hs.2.2.2.2.2)) rfl ?_
            refine w_p (pc1 := 7) (al1 := [(3, .int (nI (g))), (0, .ref 176), (1, .int (nI (F))), (2, .int (nI (ti)))]) rfl rfl ?_
            refine w_p (pc1 := 8) rfl rfl ?_
            refine w_p (pc1 := 10) (st1 := .int 8 :: _) rfl rfl ?_
            refine w_t (a := 48) (b := 13) (bN_ne_t (a := g) (b := 8) (by omega) (by omega) (by omega)) rfl rfl ?_
            refine w_p (pc1 := 49) rfl rfl ?_
            refine w_m0 (pc1 := 52) rfl rfl (h_gC rfl rfl rfl rfl) rfl ?_
            refine w_p (pc1 := 53) rfl rfl ?_
            refine w_p (pc1 := 54) rfl rfl ?_
            refine w_m0 (pc1 := 55) (st1 := .int (nI (g)) :: _) rfl rfl (n_ile (e := F) rfl rfl rfl (by omega) (hs.2.2.2.2.2)) rfl ?_
            refine w_p (pc1 := 56) (st1 := .int 1 :: _) rfl rfl ?_
            refine w_iadd (pc1 := 57) (u := nI (g)) (v := nI (1)) (z := nI (g + 1)) rfl (nK_add) rfl ?_
            refine w_m0 (pc1 := 58) rfl rfl (n_is (e := F) rfl rfl rfl (by omega)) rfl ?_
            rw [hC1]
            refine w_p (pc1 := 59) rfl rfl ?_
            refine w_m0 (pc1 := 62) rfl rfl (h_gC rfl rfl rfl rfl) rfl ?_
            refine w_p (pc1 := 63) rfl rfl ?_
            refine w_m0 (pc1 := 64) (st1 := .int 1 :: _) rfl rfl (n_ble (e := g) rfl rfl (by decide) rfl (by omega) (t0)) rfl ?_
            refine w_f (a := 107) (b := 67) rfl rfl rfl ?_
            refine w_p (pc1 := 68) rfl rfl ?_
            refine w_m0 (pc1 := 71) rfl rfl (h_gC rfl rfl rfl rfl) rfl ?_
            refine w_p (pc1 := 72) rfl rfl ?_
            refine w_m0 (pc1 := 73) (st1 := .int (nI (gTb G)) :: _) rfl rfl (n_ile (e := g) rfl rfl rfl (by omega) (hT.1.1)) rfl ?_
            refine w_p (pc1 := 74) rfl rfl ?_
            refine w_m0 (pc1 := 77) rfl rfl (h_gC rfl rfl rfl rfl) rfl ?_
            refine w_p (pc1 := 78) rfl rfl ?_
            refine w_m0 (pc1 := 79) (st1 := .int (nI (b)) :: _) rfl rfl (n_ile (e := F) rfl rfl rfl (by omega) (s1.2.2.1)) rfl ?_
            refine w_f (a := 107) (b := 82) (bN_ne_f (a := gTb G) (b := b) (by omega) (by omega) (by omega)) rfl rfl ?_
            refine w_p (pc1 := 83) rfl rfl ?_
            refine w_m0 (pc1 := 86) rfl rfl (h_gC rfl rfl rfl rfl) rfl ?_
            refine w_p (pc1 := 87) rfl rfl ?_
            refine w_m0 (pc1 := 88) (st1 := .int (nI (gTi G)) :: _) rfl rfl (n_ile (e := g) rfl rfl rfl (by omega) (hT.1.2.1)) rfl ?_
            refine w_p (pc1 := 89) rfl rfl ?_
            refine w_f (a := 107) (b := 92) (bN_ne_f (a := gTi G) (b := ti) (by omega) (by omega) (by omega)) rfl rfl ?_
            refine w_p (pc1 := 93) rfl rfl ?_
            refine w_m0 (pc1 := 96) rfl rfl (h_gC rfl rfl rfl rfl) rfl ?_
            refine w_p (pc1 := 97) rfl rfl ?_
            refine w_m0 (pc1 := 98) (st1 := .int (nI (gEv G)) :: _) rfl rfl (n_ile (e := g) rfl rfl rfl (by omega) (hT.1.2.2.1)) rfl ?_
            refine w_p (pc1 := 99) rfl rfl ?_
            refine w_m0 (pc1 := 102) rfl rfl (h_gC rfl rfl rfl rfl) rfl ?_
            refine w_p (pc1 := 103) rfl rfl ?_
            refine w_m0 (pc1 := 104) (st1 := .int (nI (kd)) :: _) rfl rfl (n_ile (e := F) rfl rfl rfl (by omega) (s1.2.1)) rfl ?_
            refine w_t (a := 108) (b := 107) (bN_eq_t (a := gEv G) (b := kd) (by omega) (by omega) (by omega)) rfl rfl ?_
            refine w_p (pc1 := 109) rfl rfl ?_
            refine w_m0 (pc1 := 112) rfl rfl (h_gC rfl rfl rfl rfl) rfl ?_
            refine w_p (pc1 := 113) rfl rfl ?_
            refine w_m0 (pc1 := 114) (st1 := .int 0 :: _) rfl rfl (n_ble (e := g) rfl rfl (by decide) rfl (by omega) (tw)) rfl ?_
            refine w_t (a := 143) (b := 117) rfl rfl rfl ?_
            refine w_p (pc1 := 144) (st1 := .int 1 :: _) rfl rfl ?_
            refine w_p (pc1 := 148) rfl rfl ?_
            refine w_p (pc1 := 150) (al1 := [(4, .int 1), (3, .int (nI (g))), (0, .ref 176), (1, .int (nI (F))), (2, .int (nI (ti)))]) rfl rfl ?_
            refine w_p (pc1 := 151) rfl rfl ?_
            refine w_m0 (pc1 := 154) (st1 := .int 0 :: _) rfl rfl (h_gIe (j := 74) rfl rfl rfl rfl rfl (E.2.2.2.2.2.2)) rfl ?_
            refine w_t (a := 162) (b := 157) rfl rfl rfl ?_
            refine w_p (pc1 := 163) rfl rfl ?_
            refine w_m0 (pc1 := 166) (st1 := .int 0 :: _) rfl rfl (h_gIe (j := 89) rfl rfl rfl rfl rfl (E.2.2.2.2.2.1)) rfl ?_
            refine w_f (a := 174) (b := 169) rfl rfl rfl ?_
            refine w_p (pc1 := 171) rfl rfl ?_
            refine w_t (a := 175) (b := 174) rfl rfl rfl ?_
            exact tr175 hg hF hb hkd ho o5 hT B1 q1 e2
          | some Q =>
            have tw := hT.2.1
            rw [hww] at tw o4
            obtain ⟨tw, tw2, tw3⟩ : C1.1 104 g = 1 ∧ C1.1 113 (24 + g) = nI Q.length ∧ foM C1 (24 + g) 0 Q := tw
            have hwk := m_251 (L := L) (xs := xs) (t := t) (d := d + 2) (sl := 0) (g := false) (z := false) (p := 24 + g) (a := 0) (e := Q.length) (l := Q) (by omega) (by have := o4.1; omega) (Nat.zero_add _) tw3 hEv o4.2 E.2.2.2.2.2.2
            obtain ⟨bv, hbv⟩ := fl_test (R := noF) (N := N) (O := O) o4.2
            have hv : rsM (f_l true noF N O Q []) = t_M bv := by rw [hbv]; rfl
            have e3 : tst noF N O (some Q) = match f_l false noF N O Q [] with | none => none | some st => (match st with | .inr (some true) :: _ => some true | _ => some false) := rfl
            rw [hww] at e1
            cases hfl : f_l false noF N O Q [] with
            | none =>
              have e2 : fir1 S (stp S m) b ti kd O g (N, σ) = ((N, σ), some byZ) := by rw [e1, e3, hfl]
              rcases bv with _ | _ | _

              · skip
                refine w_p (pc1 := 1) rfl rfl ?_
                refine w_m0 (pc1 := 4) rfl rfl (h_gC rfl rfl rfl rfl) rfl ?_
                refine w_p (pc1 := 5) rfl rfl ?_
                refine w_m0 (pc1 := 6) (st1 := .int (nI (g)) :: _) rfl rfl (n_ile (e := F) rfl rfl rfl (by omega) (hs.2.2.2.2.2)) rfl ?_
                refine w_p (pc1 := 7) (al1 := [(3, .int (nI (g))), (0, .ref 176), (1, .int (nI (F))), (2, .int (nI (ti)))]) rfl rfl ?_
                refine w_p (pc1 := 8) rfl rfl ?_
                refine w_p (pc1 := 10) (st1 := .int 8 :: _) rfl rfl ?_
                refine w_t (a := 48) (b := 13) (bN_ne_t (a := g) (b := 8) (by omega) (by omega) (by omega)) rfl rfl ?_
                refine w_p (pc1 := 49) rfl rfl ?_
                refine w_m0 (pc1 := 52) rfl rfl (h_gC rfl rfl rfl rfl) rfl ?_
                refine w_p (pc1 := 53) rfl rfl ?_
                refine w_p (pc1 := 54) rfl rfl ?_
                refine w_m0 (pc1 := 55) (st1 := .int (nI (g)) :: _) rfl rfl (n_ile (e := F) rfl rfl rfl (by omega) (hs.2.2.2.2.2)) rfl ?_
                refine w_p (pc1 := 56) (st1 := .int 1 :: _) rfl rfl ?_
                refine w_iadd (pc1 := 57) (u := nI (g)) (v := nI (1)) (z := nI (g + 1)) rfl (nK_add) rfl ?_
                refine w_m0 (pc1 := 58) rfl rfl (n_is (e := F) rfl rfl rfl (by omega)) rfl ?_
                rw [hC1]
                refine w_p (pc1 := 59) rfl rfl ?_
                refine w_m0 (pc1 := 62) rfl rfl (h_gC rfl rfl rfl rfl) rfl ?_
                refine w_p (pc1 := 63) rfl rfl ?_
                refine w_m0 (pc1 := 64) (st1 := .int 1 :: _) rfl rfl (n_ble (e := g) rfl rfl (by decide) rfl (by omega) (t0)) rfl ?_
                refine w_f (a := 107) (b := 67) rfl rfl rfl ?_
                refine w_p (pc1 := 68) rfl rfl ?_
                refine w_m0 (pc1 := 71) rfl rfl (h_gC rfl rfl rfl rfl) rfl ?_
                refine w_p (pc1 := 72) rfl rfl ?_
                refine w_m0 (pc1 := 73) (st1 := .int (nI (gTb G)) :: _) rfl rfl (n_ile (e := g) rfl rfl rfl (by omega) (hT.1.1)) rfl ?_
                refine w_p (pc1 := 74) rfl rfl ?_
                refine w_m0 (pc1 := 77) rfl rfl (h_gC rfl rfl rfl rfl) rfl ?_
                refine w_p (pc1 := 78) rfl rfl ?_
                refine w_m0 (pc1 := 79) (st1 := .int (nI (b)) :: _) rfl rfl (n_ile (e := F) rfl rfl rfl (by omega) (s1.2.2.1)) rfl ?_
                refine w_f (a := 107) (b := 82) (bN_ne_f (a := gTb G) (b := b) (by omega) (by omega) (by omega)) rfl rfl ?_
                refine w_p (pc1 := 83) rfl rfl ?_
                refine w_m0 (pc1 := 86) rfl rfl (h_gC rfl rfl rfl rfl) rfl ?_
                refine w_p (pc1 := 87) rfl rfl ?_
                refine w_m0 (pc1 := 88) (st1 := .int (nI (gTi G)) :: _) rfl rfl (n_ile (e := g) rfl rfl rfl (by omega) (hT.1.2.1)) rfl ?_
                refine w_p (pc1 := 89) rfl rfl ?_
                refine w_f (a := 107) (b := 92) (bN_ne_f (a := gTi G) (b := ti) (by omega) (by omega) (by omega)) rfl rfl ?_
                refine w_p (pc1 := 93) rfl rfl ?_
                refine w_m0 (pc1 := 96) rfl rfl (h_gC rfl rfl rfl rfl) rfl ?_
                refine w_p (pc1 := 97) rfl rfl ?_
                refine w_m0 (pc1 := 98) (st1 := .int (nI (gEv G)) :: _) rfl rfl (n_ile (e := g) rfl rfl rfl (by omega) (hT.1.2.2.1)) rfl ?_
                refine w_p (pc1 := 99) rfl rfl ?_
                refine w_m0 (pc1 := 102) rfl rfl (h_gC rfl rfl rfl rfl) rfl ?_
                refine w_p (pc1 := 103) rfl rfl ?_
                refine w_m0 (pc1 := 104) (st1 := .int (nI (kd)) :: _) rfl rfl (n_ile (e := F) rfl rfl rfl (by omega) (s1.2.1)) rfl ?_
                refine w_t (a := 108) (b := 107) (bN_eq_t (a := gEv G) (b := kd) (by omega) (by omega) (by omega)) rfl rfl ?_
                refine w_p (pc1 := 109) rfl rfl ?_
                refine w_m0 (pc1 := 112) rfl rfl (h_gC rfl rfl rfl rfl) rfl ?_
                refine w_p (pc1 := 113) rfl rfl ?_
                refine w_m0 (pc1 := 114) (st1 := .int 1 :: _) rfl rfl (n_ble (e := g) rfl rfl (by decide) rfl (by omega) (tw)) rfl ?_
                refine w_f (a := 143) (b := 117) rfl rfl rfl ?_
                refine w_p (pc1 := 118) rfl rfl ?_
                refine w_p (pc1 := 120) (st1 := .int 24 :: _) rfl rfl ?_
                refine w_p (pc1 := 121) rfl rfl ?_
                refine w_iadd (pc1 := 122) (u := nI (24)) (v := nI (g)) (z := nI (24 + g)) rfl (nK_add) rfl ?_
                refine w_p (pc1 := 123) (st1 := .int 0 :: _) rfl rfl ?_
                refine w_p (pc1 := 124) rfl rfl ?_
                refine w_m0 (pc1 := 127) rfl rfl (h_gC rfl rfl rfl rfl) rfl ?_
                refine w_p (pc1 := 129) (st1 := .int 24 :: _) rfl rfl ?_
                refine w_p (pc1 := 130) rfl rfl ?_
                refine w_iadd (pc1 := 131) (u := nI (24)) (v := nI (g)) (z := nI (24 + g)) rfl (nK_add) rfl ?_
                refine w_m0 (pc1 := 132) (st1 := .int (nI (Q.length)) :: _) rfl rfl (n_ile (e := 24 + g) rfl rfl rfl (by omega) (tw2)) rfl ?_
                refine w_p (pc1 := 133) (st1 := .int 0 :: _) rfl rfl ?_
                refine w_p (pc1 := 134) rfl rfl ?_
                refine w_p (pc1 := 135) (st1 := .int 0 :: _) rfl rfl ?_
                refine w_ji (pc1 := 138) (vs := [.ref 176, .int (nI (24 + g)), .int 0, .int (nI (Q.length)), .int 0, .int (nI (F)), .int 0]) (rest := []) (hwk) rfl rfl rfl (fun _ _ => rfl) rfl (by exact cl_v my_251 rfl rfl rfl (Nat.le_of_ble_eq_true rfl) rfl (MH_obj rfl rfl) rfl (by decide) rfl rfl) (by rfl) (Nat.le_of_ble_eq_true rfl) (Nat.le_of_ble_eq_true rfl) rfl (fun v h m hq => ?_) (fun _ _ _ e => e.elim)
                obtain ⟨rfl, ⟨C2, ⟨f1, f2⟩, rfl⟩, rfl⟩ := hq
                rw [hv]
                have f1 : C2.1 76 74 = 1 := by rw [f1, hfl]; rfl
                have h89 : C2.1 76 89 = 0 := (f2.1 76 89 (by omega)).trans E.2.2.2.2.2.1
                refine w_p (pc1 := 139) (st1 := .long 1 :: _) rfl rfl ?_
                refine w_p (pc1 := 140) rfl rfl ?_
                refine w_t (a := 147) (b := 143) (lb_ne_t (by decide)) rfl rfl ?_
                refine w_p (pc1 := 148) (st1 := .int 0 :: _) rfl rfl ?_
                refine w_p (pc1 := 150) (al1 := [(4, .int 0), (3, .int (nI (g))), (0, .ref 176), (1, .int (nI (F))), (2, .int (nI (ti)))]) rfl rfl ?_
                refine w_p (pc1 := 151) rfl rfl ?_
                refine w_m0 (pc1 := 154) (st1 := .int 1 :: _) rfl rfl (h_gIe (j := 74) rfl rfl rfl rfl rfl (f1)) rfl ?_
                refine w_f (a := 162) (b := 157) rfl rfl rfl ?_
                refine w_p (pc1 := 158) rfl rfl ?_
                refine w_p (pc1 := 159) (st1 := .int 4 :: _) rfl rfl ?_
                refine w_je (pc1 := 162) (vs := [.ref 176, .int 4]) (rest := []) (st1 := []) (m_256 (d := d + 5) (sl := 0) h89) rfl rfl rfl (fun _ _ => rfl) rfl (by exact cl_v my_256 rfl rfl rfl (Nat.le_of_ble_eq_true rfl) rfl (MH_obj rfl rfl) rfl (by decide) rfl rfl) (by rfl) (Nat.le_of_ble_eq_true rfl) (Nat.le_of_ble_eq_true rfl) rfl (by rfl) ?_
                refine w_p (pc1 := 163) rfl rfl ?_
                refine w_m0 (pc1 := 166) (st1 := .int 4 :: _) rfl rfl (h_gIe (j := 89) rfl rfl rfl rfl rfl (rfl)) rfl ?_
                refine w_t (a := 174) (b := 169) rfl rfl rfl ?_
                refine w_r rfl rfl rfl (fun _ _ => rfl) rfl ?_
                have X1 := E.2.2.1
                have h9 : (sI C2 76 89 4).1 76 89 = 4 := rfl
                exact ⟨rfl, ⟨sI C2 76 89 4, Or.inr (Or.inl ⟨byZ, e2, by rw [h9]; decide, ⟨(f2.1 76 93 (by omega)).trans X1.1, X1.2.1, (f2.1 76 95 (by omega)).trans X1.2.2.1, X1.2.2.2⟩, ⟨h9, fun h => absurd h (by decide), fun h => absurd h (by decide)⟩, ⟨true, f1⟩, frQ_t q1 (frQ_t (frQ_W f2) (frQ_I (by omega)))⟩), rfl⟩, rfl⟩
              · skip
                refine w_p (pc1 := 1) rfl rfl ?_
                refine w_m0 (pc1 := 4) rfl rfl (h_gC rfl rfl rfl rfl) rfl ?_
                refine w_p (pc1 := 5) rfl rfl ?_
                refine w_m0 (pc1 := 6) (st1 := .int (nI (g)) :: _) rfl rfl (n_ile (e := F) rfl rfl rfl (by omega) (hs.2.2.2.2.2)) rfl ?_
                refine w_p (pc1 := 7) (al1 := [(3, .int (nI (g))), (0, .ref 176), (1, .int (nI (F))), (2, .int (nI (ti)))]) rfl rfl ?_
                refine w_p (pc1 := 8) rfl rfl ?_
                refine w_p (pc1 := 10) (st1 := .int 8 :: _) rfl rfl ?_
                refine w_t (a := 48) (b := 13) (bN_ne_t (a := g) (b := 8) (by omega) (by omega) (by omega)) rfl rfl ?_
                refine w_p (pc1 := 49) rfl rfl ?_
                refine w_m0 (pc1 := 52) rfl rfl (h_gC rfl rfl rfl rfl) rfl ?_
                refine w_p (pc1 := 53) rfl rfl ?_
                refine w_p (pc1 := 54) rfl rfl ?_
                refine w_m0 (pc1 := 55) (st1 := .int (nI (g)) :: _) rfl rfl (n_ile (e := F) rfl rfl rfl (by omega) (hs.2.2.2.2.2)) rfl ?_
                refine w_p (pc1 := 56) (st1 := .int 1 :: _) rfl rfl ?_
                refine w_iadd (pc1 := 57) (u := nI (g)) (v := nI (1)) (z := nI (g + 1)) rfl (nK_add) rfl ?_
                refine w_m0 (pc1 := 58) rfl rfl (n_is (e := F) rfl rfl rfl (by omega)) rfl ?_
                rw [hC1]
                refine w_p (pc1 := 59) rfl rfl ?_
                refine w_m0 (pc1 := 62) rfl rfl (h_gC rfl rfl rfl rfl) rfl ?_
                refine w_p (pc1 := 63) rfl rfl ?_
                refine w_m0 (pc1 := 64) (st1 := .int 1 :: _) rfl rfl (n_ble (e := g) rfl rfl (by decide) rfl (by omega) (t0)) rfl ?_
                refine w_f (a := 107) (b := 67) rfl rfl rfl ?_
                refine w_p (pc1 := 68) rfl rfl ?_
                refine w_m0 (pc1 := 71) rfl rfl (h_gC rfl rfl rfl rfl) rfl ?_
                refine w_p (pc1 := 72) rfl rfl ?_
                refine w_m0 (pc1 := 73) (st1 := .int (nI (gTb G)) :: _) rfl rfl (n_ile (e := g) rfl rfl rfl (by omega) (hT.1.1)) rfl ?_
                refine w_p (pc1 := 74) rfl rfl ?_
                refine w_m0 (pc1 := 77) rfl rfl (h_gC rfl rfl rfl rfl) rfl ?_
                refine w_p (pc1 := 78) rfl rfl ?_
                refine w_m0 (pc1 := 79) (st1 := .int (nI (b)) :: _) rfl rfl (n_ile (e := F) rfl rfl rfl (by omega) (s1.2.2.1)) rfl ?_
                refine w_f (a := 107) (b := 82) (bN_ne_f (a := gTb G) (b := b) (by omega) (by omega) (by omega)) rfl rfl ?_
                refine w_p (pc1 := 83) rfl rfl ?_
                refine w_m0 (pc1 := 86) rfl rfl (h_gC rfl rfl rfl rfl) rfl ?_
                refine w_p (pc1 := 87) rfl rfl ?_
                refine w_m0 (pc1 := 88) (st1 := .int (nI (gTi G)) :: _) rfl rfl (n_ile (e := g) rfl rfl rfl (by omega) (hT.1.2.1)) rfl ?_
                refine w_p (pc1 := 89) rfl rfl ?_
                refine w_f (a := 107) (b := 92) (bN_ne_f (a := gTi G) (b := ti) (by omega) (by omega) (by omega)) rfl rfl ?_
                refine w_p (pc1 := 93) rfl rfl ?_
                refine w_m0 (pc1 := 96) rfl rfl (h_gC rfl rfl rfl rfl) rfl ?_
                refine w_p (pc1 := 97) rfl rfl ?_
                refine w_m0 (pc1 := 98) (st1 := .int (nI (gEv G)) :: _) rfl rfl (n_ile (e := g) rfl rfl rfl (by omega) (hT.1.2.2.1)) rfl ?_
                refine w_p (pc1 := 99) rfl rfl ?_
                refine w_m0 (pc1 := 102) rfl rfl (h_gC rfl rfl rfl rfl) rfl ?_
                refine w_p (pc1 := 103) rfl rfl ?_
                refine w_m0 (pc1 := 104) (st1 := .int (nI (kd)) :: _) rfl rfl (n_ile (e := F) rfl rfl rfl (by omega) (s1.2.1)) rfl ?_
                refine w_t (a := 108) (b := 107) (bN_eq_t (a := gEv G) (b := kd) (by omega) (by omega) (by omega)) rfl rfl ?_
                refine w_p (pc1 := 109) rfl rfl ?_
                refine w_m0 (pc1 := 112) rfl rfl (h_gC rfl rfl rfl rfl) rfl ?_
                refine w_p (pc1 := 113) rfl rfl ?_
                refine w_m0 (pc1 := 114) (st1 := .int 1 :: _) rfl rfl (n_ble (e := g) rfl rfl (by decide) rfl (by omega) (tw)) rfl ?_
                refine w_f (a := 143) (b := 117) rfl rfl rfl ?_
                refine w_p (pc1 := 118) rfl rfl ?_
                refine w_p (pc1 := 120) (st1 := .int 24 :: _) rfl rfl ?_
                refine w_p (pc1 := 121) rfl rfl ?_
                refine w_iadd (pc1 := 122) (u := nI (24)) (v := nI (g)) (z := nI (24 + g)) rfl (nK_add) rfl ?_
                refine w_p (pc1 := 123) (st1 := .int 0 :: _) rfl rfl ?_
                refine w_p (pc1 := 124) rfl rfl ?_
                refine w_m0 (pc1 := 127) rfl rfl (h_gC rfl rfl rfl rfl) rfl ?_
                refine w_p (pc1 := 129) (st1 := .int 24 :: _) rfl rfl ?_
                refine w_p (pc1 := 130) rfl rfl ?_
                refine w_iadd (pc1 := 131) (u := nI (24)) (v := nI (g)) (z := nI (24 + g)) rfl (nK_add) rfl ?_
                refine w_m0 (pc1 := 132) (st1 := .int (nI (Q.length)) :: _) rfl rfl (n_ile (e := 24 + g) rfl rfl rfl (by omega) (tw2)) rfl ?_
                refine w_p (pc1 := 133) (st1 := .int 0 :: _) rfl rfl ?_
                refine w_p (pc1 := 134) rfl rfl ?_
                refine w_p (pc1 := 135) (st1 := .int 0 :: _) rfl rfl ?_
                refine w_ji (pc1 := 138) (vs := [.ref 176, .int (nI (24 + g)), .int 0, .int (nI (Q.length)), .int 0, .int (nI (F)), .int 0]) (rest := []) (hwk) rfl rfl rfl (fun _ _ => rfl) rfl (by exact cl_v my_251 rfl rfl rfl (Nat.le_of_ble_eq_true rfl) rfl (MH_obj rfl rfl) rfl (by decide) rfl rfl) (by rfl) (Nat.le_of_ble_eq_true rfl) (Nat.le_of_ble_eq_true rfl) rfl (fun v h m hq => ?_) (fun _ _ _ e => e.elim)
                obtain ⟨rfl, ⟨C2, ⟨f1, f2⟩, rfl⟩, rfl⟩ := hq
                rw [hv]
                have f1 : C2.1 76 74 = 1 := by rw [f1, hfl]; rfl
                have h89 : C2.1 76 89 = 0 := (f2.1 76 89 (by omega)).trans E.2.2.2.2.2.1
                refine w_p (pc1 := 139) (st1 := .long 1 :: _) rfl rfl ?_
                refine w_p (pc1 := 140) rfl rfl ?_
                refine w_t (a := 147) (b := 143) (lb_ne_t (by decide)) rfl rfl ?_
                refine w_p (pc1 := 148) (st1 := .int 0 :: _) rfl rfl ?_
                refine w_p (pc1 := 150) (al1 := [(4, .int 0), (3, .int (nI (g))), (0, .ref 176), (1, .int (nI (F))), (2, .int (nI (ti)))]) rfl rfl ?_
                refine w_p (pc1 := 151) rfl rfl ?_
                refine w_m0 (pc1 := 154) (st1 := .int 1 :: _) rfl rfl (h_gIe (j := 74) rfl rfl rfl rfl rfl (f1)) rfl ?_
                refine w_f (a := 162) (b := 157) rfl rfl rfl ?_
                refine w_p (pc1 := 158) rfl rfl ?_
                refine w_p (pc1 := 159) (st1 := .int 4 :: _) rfl rfl ?_
                refine w_je (pc1 := 162) (vs := [.ref 176, .int 4]) (rest := []) (st1 := []) (m_256 (d := d + 5) (sl := 0) h89) rfl rfl rfl (fun _ _ => rfl) rfl (by exact cl_v my_256 rfl rfl rfl (Nat.le_of_ble_eq_true rfl) rfl (MH_obj rfl rfl) rfl (by decide) rfl rfl) (by rfl) (Nat.le_of_ble_eq_true rfl) (Nat.le_of_ble_eq_true rfl) rfl (by rfl) ?_
                refine w_p (pc1 := 163) rfl rfl ?_
                refine w_m0 (pc1 := 166) (st1 := .int 4 :: _) rfl rfl (h_gIe (j := 89) rfl rfl rfl rfl rfl (rfl)) rfl ?_
                refine w_t (a := 174) (b := 169) rfl rfl rfl ?_
                refine w_r rfl rfl rfl (fun _ _ => rfl) rfl ?_
                have X1 := E.2.2.1
                have h9 : (sI C2 76 89 4).1 76 89 = 4 := rfl
                exact ⟨rfl, ⟨sI C2 76 89 4, Or.inr (Or.inl ⟨byZ, e2, by rw [h9]; decide, ⟨(f2.1 76 93 (by omega)).trans X1.1, X1.2.1, (f2.1 76 95 (by omega)).trans X1.2.2.1, X1.2.2.2⟩, ⟨h9, fun h => absurd h (by decide), fun h => absurd h (by decide)⟩, ⟨true, f1⟩, frQ_t q1 (frQ_t (frQ_W f2) (frQ_I (by omega)))⟩), rfl⟩, rfl⟩
              · skip
                refine w_p (pc1 := 1) rfl rfl ?_
                refine w_m0 (pc1 := 4) rfl rfl (h_gC rfl rfl rfl rfl) rfl ?_
                refine w_p (pc1 := 5) rfl rfl ?_
                refine w_m0 (pc1 := 6) (st1 := .int (nI (g)) :: _) rfl rfl (n_ile (e := F) rfl rfl rfl (by omega) (hs.2.2.2.2.2)) rfl ?_
                refine w_p (pc1 := 7) (al1 := [(3, .int (nI (g))), (0, .ref 176), (1, .int (nI (F))), (2, .int (nI (ti)))]) rfl rfl ?_
                refine w_p (pc1 := 8) rfl rfl ?_
                refine w_p (pc1 := 10) (st1 := .int 8 :: _) rfl rfl ?_
                refine w_t (a := 48) (b := 13) (bN_ne_t (a := g) (b := 8) (by omega) (by omega) (by omega)) rfl rfl ?_
                refine w_p (pc1 := 49) rfl rfl ?_
                refine w_m0 (pc1 := 52) rfl rfl (h_gC rfl rfl rfl rfl) rfl ?_
                refine w_p (pc1 := 53) rfl rfl ?_
                refine w_p (pc1 := 54) rfl rfl ?_
                refine w_m0 (pc1 := 55) (st1 := .int (nI (g)) :: _) rfl rfl (n_ile (e := F) rfl rfl rfl (by omega) (hs.2.2.2.2.2)) rfl ?_
                refine w_p (pc1 := 56) (st1 := .int 1 :: _) rfl rfl ?_
                refine w_iadd (pc1 := 57) (u := nI (g)) (v := nI (1)) (z := nI (g + 1)) rfl (nK_add) rfl ?_
                refine w_m0 (pc1 := 58) rfl rfl (n_is (e := F) rfl rfl rfl (by omega)) rfl ?_
                rw [hC1]
                refine w_p (pc1 := 59) rfl rfl ?_
                refine w_m0 (pc1 := 62) rfl rfl (h_gC rfl rfl rfl rfl) rfl ?_
                refine w_p (pc1 := 63) rfl rfl ?_
                refine w_m0 (pc1 := 64) (st1 := .int 1 :: _) rfl rfl (n_ble (e := g) rfl rfl (by decide) rfl (by omega) (t0)) rfl ?_
                refine w_f (a := 107) (b := 67) rfl rfl rfl ?_
                refine w_p (pc1 := 68) rfl rfl ?_
                refine w_m0 (pc1 := 71) rfl rfl (h_gC rfl rfl rfl rfl) rfl ?_
                refine w_p (pc1 := 72) rfl rfl ?_
                refine w_m0 (pc1 := 73) (st1 := .int (nI (gTb G)) :: _) rfl rfl (n_ile (e := g) rfl rfl rfl (by omega) (hT.1.1)) rfl ?_
                refine w_p (pc1 := 74) rfl rfl ?_
                refine w_m0 (pc1 := 77) rfl rfl (h_gC rfl rfl rfl rfl) rfl ?_
                refine w_p (pc1 := 78) rfl rfl ?_
                refine w_m0 (pc1 := 79) (st1 := .int (nI (b)) :: _) rfl rfl (n_ile (e := F) rfl rfl rfl (by omega) (s1.2.2.1)) rfl ?_
                refine w_f (a := 107) (b := 82) (bN_ne_f (a := gTb G) (b := b) (by omega) (by omega) (by omega)) rfl rfl ?_
                refine w_p (pc1 := 83) rfl rfl ?_
                refine w_m0 (pc1 := 86) rfl rfl (h_gC rfl rfl rfl rfl) rfl ?_
                refine w_p (pc1 := 87) rfl rfl ?_
                refine w_m0 (pc1 := 88) (st1 := .int (nI (gTi G)) :: _) rfl rfl (n_ile (e := g) rfl rfl rfl (by omega) (hT.1.2.1)) rfl ?_
                refine w_p (pc1 := 89) rfl rfl ?_
                refine w_f (a := 107) (b := 92) (bN_ne_f (a := gTi G) (b := ti) (by omega) (by omega) (by omega)) rfl rfl ?_
                refine w_p (pc1 := 93) rfl rfl ?_
                refine w_m0 (pc1 := 96) rfl rfl (h_gC rfl rfl rfl rfl) rfl ?_
                refine w_p (pc1 := 97) rfl rfl ?_
                refine w_m0 (pc1 := 98) (st1 := .int (nI (gEv G)) :: _) rfl rfl (n_ile (e := g) rfl rfl rfl (by omega) (hT.1.2.2.1)) rfl ?_
                refine w_p (pc1 := 99) rfl rfl ?_
                refine w_m0 (pc1 := 102) rfl rfl (h_gC rfl rfl rfl rfl) rfl ?_
                refine w_p (pc1 := 103) rfl rfl ?_
                refine w_m0 (pc1 := 104) (st1 := .int (nI (kd)) :: _) rfl rfl (n_ile (e := F) rfl rfl rfl (by omega) (s1.2.1)) rfl ?_
                refine w_t (a := 108) (b := 107) (bN_eq_t (a := gEv G) (b := kd) (by omega) (by omega) (by omega)) rfl rfl ?_
                refine w_p (pc1 := 109) rfl rfl ?_
                refine w_m0 (pc1 := 112) rfl rfl (h_gC rfl rfl rfl rfl) rfl ?_
                refine w_p (pc1 := 113) rfl rfl ?_
                refine w_m0 (pc1 := 114) (st1 := .int 1 :: _) rfl rfl (n_ble (e := g) rfl rfl (by decide) rfl (by omega) (tw)) rfl ?_
                refine w_f (a := 143) (b := 117) rfl rfl rfl ?_
                refine w_p (pc1 := 118) rfl rfl ?_
                refine w_p (pc1 := 120) (st1 := .int 24 :: _) rfl rfl ?_
                refine w_p (pc1 := 121) rfl rfl ?_
                refine w_iadd (pc1 := 122) (u := nI (24)) (v := nI (g)) (z := nI (24 + g)) rfl (nK_add) rfl ?_
                refine w_p (pc1 := 123) (st1 := .int 0 :: _) rfl rfl ?_
                refine w_p (pc1 := 124) rfl rfl ?_
                refine w_m0 (pc1 := 127) rfl rfl (h_gC rfl rfl rfl rfl) rfl ?_
                refine w_p (pc1 := 129) (st1 := .int 24 :: _) rfl rfl ?_
                refine w_p (pc1 := 130) rfl rfl ?_
                refine w_iadd (pc1 := 131) (u := nI (24)) (v := nI (g)) (z := nI (24 + g)) rfl (nK_add) rfl ?_
                refine w_m0 (pc1 := 132) (st1 := .int (nI (Q.length)) :: _) rfl rfl (n_ile (e := 24 + g) rfl rfl rfl (by omega) (tw2)) rfl ?_
                refine w_p (pc1 := 133) (st1 := .int 0 :: _) rfl rfl ?_
                refine w_p (pc1 := 134) rfl rfl ?_
                refine w_p (pc1 := 135) (st1 := .int 0 :: _) rfl rfl ?_
                refine w_ji (pc1 := 138) (vs := [.ref 176, .int (nI (24 + g)), .int 0, .int (nI (Q.length)), .int 0, .int (nI (F)), .int 0]) (rest := []) (hwk) rfl rfl rfl (fun _ _ => rfl) rfl (by exact cl_v my_251 rfl rfl rfl (Nat.le_of_ble_eq_true rfl) rfl (MH_obj rfl rfl) rfl (by decide) rfl rfl) (by rfl) (Nat.le_of_ble_eq_true rfl) (Nat.le_of_ble_eq_true rfl) rfl (fun v h m hq => ?_) (fun _ _ _ e => e.elim)
                obtain ⟨rfl, ⟨C2, ⟨f1, f2⟩, rfl⟩, rfl⟩ := hq
                rw [hv]
                have f1 : C2.1 76 74 = 1 := by rw [f1, hfl]; rfl
                have h89 : C2.1 76 89 = 0 := (f2.1 76 89 (by omega)).trans E.2.2.2.2.2.1
                refine w_p (pc1 := 139) (st1 := .long 1 :: _) rfl rfl ?_
                refine w_p (pc1 := 140) rfl rfl ?_
                refine w_f (a := 147) (b := 143) (lb_ne_f (by rfl)) rfl rfl ?_
                refine w_p (pc1 := 144) (st1 := .int 1 :: _) rfl rfl ?_
                refine w_p (pc1 := 148) rfl rfl ?_
                refine w_p (pc1 := 150) (al1 := [(4, .int 1), (3, .int (nI (g))), (0, .ref 176), (1, .int (nI (F))), (2, .int (nI (ti)))]) rfl rfl ?_
                refine w_p (pc1 := 151) rfl rfl ?_
                refine w_m0 (pc1 := 154) (st1 := .int 1 :: _) rfl rfl (h_gIe (j := 74) rfl rfl rfl rfl rfl (f1)) rfl ?_
                refine w_f (a := 162) (b := 157) rfl rfl rfl ?_
                refine w_p (pc1 := 158) rfl rfl ?_
                refine w_p (pc1 := 159) (st1 := .int 4 :: _) rfl rfl ?_
                refine w_je (pc1 := 162) (vs := [.ref 176, .int 4]) (rest := []) (st1 := []) (m_256 (d := d + 5) (sl := 0) h89) rfl rfl rfl (fun _ _ => rfl) rfl (by exact cl_v my_256 rfl rfl rfl (Nat.le_of_ble_eq_true rfl) rfl (MH_obj rfl rfl) rfl (by decide) rfl rfl) (by rfl) (Nat.le_of_ble_eq_true rfl) (Nat.le_of_ble_eq_true rfl) rfl (by rfl) ?_
                refine w_p (pc1 := 163) rfl rfl ?_
                refine w_m0 (pc1 := 166) (st1 := .int 4 :: _) rfl rfl (h_gIe (j := 89) rfl rfl rfl rfl rfl (rfl)) rfl ?_
                refine w_t (a := 174) (b := 169) rfl rfl rfl ?_
                refine w_r rfl rfl rfl (fun _ _ => rfl) rfl ?_
                have X1 := E.2.2.1
                have h9 : (sI C2 76 89 4).1 76 89 = 4 := rfl
                exact ⟨rfl, ⟨sI C2 76 89 4, Or.inr (Or.inl ⟨byZ, e2, by rw [h9]; decide, ⟨(f2.1 76 93 (by omega)).trans X1.1, X1.2.1, (f2.1 76 95 (by omega)).trans X1.2.2.1, X1.2.2.2⟩, ⟨h9, fun h => absurd h (by decide), fun h => absurd h (by decide)⟩, ⟨true, f1⟩, frQ_t q1 (frQ_t (frQ_W f2) (frQ_I (by omega)))⟩), rfl⟩, rfl⟩
            | some st =>
              have hv3 := fl_t Q [] st hfl
              rw [hbv] at hv3
              cases hv3
              rcases bv with _ | _ | _
              · have e2 : fir1 S (stp S m) b ti kd O g (N, σ) = ((N, σ), none) := by rw [e1, e3, hfl]
                refine w_p (pc1 := 1) rfl rfl ?_
                refine w_m0 (pc1 := 4) rfl rfl (h_gC rfl rfl rfl rfl) rfl ?_
                refine w_p (pc1 := 5) rfl rfl ?_
                refine w_m0 (pc1 := 6) (st1 := .int (nI (g)) :: _) rfl rfl (n_ile (e := F) rfl rfl rfl (by omega) (hs.2.2.2.2.2)) rfl ?_
                refine w_p (pc1 := 7) (al1 := [(3, .int (nI (g))), (0, .ref 176), (1, .int (nI (F))), (2, .int (nI (ti)))]) rfl rfl ?_
                refine w_p (pc1 := 8) rfl rfl ?_
                refine w_p (pc1 := 10) (st1 := .int 8 :: _) rfl rfl ?_
                refine w_t (a := 48) (b := 13) (bN_ne_t (a := g) (b := 8) (by omega) (by omega) (by omega)) rfl rfl ?_
                refine w_p (pc1 := 49) rfl rfl ?_
                refine w_m0 (pc1 := 52) rfl rfl (h_gC rfl rfl rfl rfl) rfl ?_
                refine w_p (pc1 := 53) rfl rfl ?_
                refine w_p (pc1 := 54) rfl rfl ?_
                refine w_m0 (pc1 := 55) (st1 := .int (nI (g)) :: _) rfl rfl (n_ile (e := F) rfl rfl rfl (by omega) (hs.2.2.2.2.2)) rfl ?_
                refine w_p (pc1 := 56) (st1 := .int 1 :: _) rfl rfl ?_
                refine w_iadd (pc1 := 57) (u := nI (g)) (v := nI (1)) (z := nI (g + 1)) rfl (nK_add) rfl ?_
                refine w_m0 (pc1 := 58) rfl rfl (n_is (e := F) rfl rfl rfl (by omega)) rfl ?_
                rw [hC1]
                refine w_p (pc1 := 59) rfl rfl ?_
                refine w_m0 (pc1 := 62) rfl rfl (h_gC rfl rfl rfl rfl) rfl ?_
                refine w_p (pc1 := 63) rfl rfl ?_
                refine w_m0 (pc1 := 64) (st1 := .int 1 :: _) rfl rfl (n_ble (e := g) rfl rfl (by decide) rfl (by omega) (t0)) rfl ?_
                refine w_f (a := 107) (b := 67) rfl rfl rfl ?_
                refine w_p (pc1 := 68) rfl rfl ?_
                refine w_m0 (pc1 := 71) rfl rfl (h_gC rfl rfl rfl rfl) rfl ?_
                refine w_p (pc1 := 72) rfl rfl ?_
                refine w_m0 (pc1 := 73) (st1 := .int (nI (gTb G)) :: _) rfl rfl (n_ile (e := g) rfl rfl rfl (by omega) (hT.1.1)) rfl ?_
                refine w_p (pc1 := 74) rfl rfl ?_
                refine w_m0 (pc1 := 77) rfl rfl (h_gC rfl rfl rfl rfl) rfl ?_
                refine w_p (pc1 := 78) rfl rfl ?_
                refine w_m0 (pc1 := 79) (st1 := .int (nI (b)) :: _) rfl rfl (n_ile (e := F) rfl rfl rfl (by omega) (s1.2.2.1)) rfl ?_
                refine w_f (a := 107) (b := 82) (bN_ne_f (a := gTb G) (b := b) (by omega) (by omega) (by omega)) rfl rfl ?_
                refine w_p (pc1 := 83) rfl rfl ?_
                refine w_m0 (pc1 := 86) rfl rfl (h_gC rfl rfl rfl rfl) rfl ?_
                refine w_p (pc1 := 87) rfl rfl ?_
                refine w_m0 (pc1 := 88) (st1 := .int (nI (gTi G)) :: _) rfl rfl (n_ile (e := g) rfl rfl rfl (by omega) (hT.1.2.1)) rfl ?_
                refine w_p (pc1 := 89) rfl rfl ?_
                refine w_f (a := 107) (b := 92) (bN_ne_f (a := gTi G) (b := ti) (by omega) (by omega) (by omega)) rfl rfl ?_
                refine w_p (pc1 := 93) rfl rfl ?_
                refine w_m0 (pc1 := 96) rfl rfl (h_gC rfl rfl rfl rfl) rfl ?_
                refine w_p (pc1 := 97) rfl rfl ?_
                refine w_m0 (pc1 := 98) (st1 := .int (nI (gEv G)) :: _) rfl rfl (n_ile (e := g) rfl rfl rfl (by omega) (hT.1.2.2.1)) rfl ?_
                refine w_p (pc1 := 99) rfl rfl ?_
                refine w_m0 (pc1 := 102) rfl rfl (h_gC rfl rfl rfl rfl) rfl ?_
                refine w_p (pc1 := 103) rfl rfl ?_
                refine w_m0 (pc1 := 104) (st1 := .int (nI (kd)) :: _) rfl rfl (n_ile (e := F) rfl rfl rfl (by omega) (s1.2.1)) rfl ?_
                refine w_t (a := 108) (b := 107) (bN_eq_t (a := gEv G) (b := kd) (by omega) (by omega) (by omega)) rfl rfl ?_
                refine w_p (pc1 := 109) rfl rfl ?_
                refine w_m0 (pc1 := 112) rfl rfl (h_gC rfl rfl rfl rfl) rfl ?_
                refine w_p (pc1 := 113) rfl rfl ?_
                refine w_m0 (pc1 := 114) (st1 := .int 1 :: _) rfl rfl (n_ble (e := g) rfl rfl (by decide) rfl (by omega) (tw)) rfl ?_
                refine w_f (a := 143) (b := 117) rfl rfl rfl ?_
                refine w_p (pc1 := 118) rfl rfl ?_
                refine w_p (pc1 := 120) (st1 := .int 24 :: _) rfl rfl ?_
                refine w_p (pc1 := 121) rfl rfl ?_
                refine w_iadd (pc1 := 122) (u := nI (24)) (v := nI (g)) (z := nI (24 + g)) rfl (nK_add) rfl ?_
                refine w_p (pc1 := 123) (st1 := .int 0 :: _) rfl rfl ?_
                refine w_p (pc1 := 124) rfl rfl ?_
                refine w_m0 (pc1 := 127) rfl rfl (h_gC rfl rfl rfl rfl) rfl ?_
                refine w_p (pc1 := 129) (st1 := .int 24 :: _) rfl rfl ?_
                refine w_p (pc1 := 130) rfl rfl ?_
                refine w_iadd (pc1 := 131) (u := nI (24)) (v := nI (g)) (z := nI (24 + g)) rfl (nK_add) rfl ?_
                refine w_m0 (pc1 := 132) (st1 := .int (nI (Q.length)) :: _) rfl rfl (n_ile (e := 24 + g) rfl rfl rfl (by omega) (tw2)) rfl ?_
                refine w_p (pc1 := 133) (st1 := .int 0 :: _) rfl rfl ?_
                refine w_p (pc1 := 134) rfl rfl ?_
                refine w_p (pc1 := 135) (st1 := .int 0 :: _) rfl rfl ?_
                refine w_ji (pc1 := 138) (vs := [.ref 176, .int (nI (24 + g)), .int 0, .int (nI (Q.length)), .int 0, .int (nI (F)), .int 0]) (rest := []) (hwk) rfl rfl rfl (fun _ _ => rfl) rfl (by exact cl_v my_251 rfl rfl rfl (Nat.le_of_ble_eq_true rfl) rfl (MH_obj rfl rfl) rfl (by decide) rfl rfl) (by rfl) (Nat.le_of_ble_eq_true rfl) (Nat.le_of_ble_eq_true rfl) rfl (fun v h m hq => ?_) (fun _ _ _ e => e.elim)
                obtain ⟨rfl, ⟨C2, ⟨f1, f2⟩, rfl⟩, rfl⟩ := hq
                rw [hv]
                have f1 : C2.1 76 74 = 0 := by rw [f1, hfl]; rfl
                have h89 : C2.1 76 89 = 0 := (f2.1 76 89 (by omega)).trans E.2.2.2.2.2.1
                refine w_p (pc1 := 139) (st1 := .long 1 :: _) rfl rfl ?_
                refine w_p (pc1 := 140) rfl rfl ?_
                refine w_t (a := 147) (b := 143) (lb_ne_t (by decide)) rfl rfl ?_
                refine w_p (pc1 := 148) (st1 := .int 0 :: _) rfl rfl ?_
                refine w_p (pc1 := 150) (al1 := [(4, .int 0), (3, .int (nI (g))), (0, .ref 176), (1, .int (nI (F))), (2, .int (nI (ti)))]) rfl rfl ?_
                refine w_p (pc1 := 151) rfl rfl ?_
                refine w_m0 (pc1 := 154) (st1 := .int 0 :: _) rfl rfl (h_gIe (j := 74) rfl rfl rfl rfl rfl (f1)) rfl ?_
                refine w_t (a := 162) (b := 157) rfl rfl rfl ?_
                refine w_p (pc1 := 163) rfl rfl ?_
                refine w_m0 (pc1 := 166) (st1 := .int 0 :: _) rfl rfl (h_gIe (j := 89) rfl rfl rfl rfl rfl (h89)) rfl ?_
                refine w_f (a := 174) (b := 169) rfl rfl rfl ?_
                refine w_p (pc1 := 171) rfl rfl ?_
                refine w_f (a := 175) (b := 174) rfl rfl rfl ?_
                refine w_r rfl rfl rfl (fun _ _ => rfl) rfl ?_
                exact ⟨rfl, ⟨C2, Or.inl ⟨N, e2, TB_W f2 f1 B1, frQ_t q1 (frQ_W f2)⟩, rfl⟩, rfl⟩
              · have e2 : fir1 S (stp S m) b ti kd O g (N, σ) = ((N, σ), none) := by rw [e1, e3, hfl]
                refine w_p (pc1 := 1) rfl rfl ?_
                refine w_m0 (pc1 := 4) rfl rfl (h_gC rfl rfl rfl rfl) rfl ?_
                refine w_p (pc1 := 5) rfl rfl ?_
                refine w_m0 (pc1 := 6) (st1 := .int (nI (g)) :: _) rfl rfl (n_ile (e := F) rfl rfl rfl (by omega) (hs.2.2.2.2.2)) rfl ?_
                refine w_p (pc1 := 7) (al1 := [(3, .int (nI (g))), (0, .ref 176), (1, .int (nI (F))), (2, .int (nI (ti)))]) rfl rfl ?_
                refine w_p (pc1 := 8) rfl rfl ?_
                refine w_p (pc1 := 10) (st1 := .int 8 :: _) rfl rfl ?_
                refine w_t (a := 48) (b := 13) (bN_ne_t (a := g) (b := 8) (by omega) (by omega) (by omega)) rfl rfl ?_
                refine w_p (pc1 := 49) rfl rfl ?_
                refine w_m0 (pc1 := 52) rfl rfl (h_gC rfl rfl rfl rfl) rfl ?_
                refine w_p (pc1 := 53) rfl rfl ?_
                refine w_p (pc1 := 54) rfl rfl ?_
                refine w_m0 (pc1 := 55) (st1 := .int (nI (g)) :: _) rfl rfl (n_ile (e := F) rfl rfl rfl (by omega) (hs.2.2.2.2.2)) rfl ?_
                refine w_p (pc1 := 56) (st1 := .int 1 :: _) rfl rfl ?_
                refine w_iadd (pc1 := 57) (u := nI (g)) (v := nI (1)) (z := nI (g + 1)) rfl (nK_add) rfl ?_
                refine w_m0 (pc1 := 58) rfl rfl (n_is (e := F) rfl rfl rfl (by omega)) rfl ?_
                rw [hC1]
                refine w_p (pc1 := 59) rfl rfl ?_
                refine w_m0 (pc1 := 62) rfl rfl (h_gC rfl rfl rfl rfl) rfl ?_
                refine w_p (pc1 := 63) rfl rfl ?_
                refine w_m0 (pc1 := 64) (st1 := .int 1 :: _) rfl rfl (n_ble (e := g) rfl rfl (by decide) rfl (by omega) (t0)) rfl ?_
                refine w_f (a := 107) (b := 67) rfl rfl rfl ?_
                refine w_p (pc1 := 68) rfl rfl ?_
                refine w_m0 (pc1 := 71) rfl rfl (h_gC rfl rfl rfl rfl) rfl ?_
                refine w_p (pc1 := 72) rfl rfl ?_
                refine w_m0 (pc1 := 73) (st1 := .int (nI (gTb G)) :: _) rfl rfl (n_ile (e := g) rfl rfl rfl (by omega) (hT.1.1)) rfl ?_
                refine w_p (pc1 := 74) rfl rfl ?_
                refine w_m0 (pc1 := 77) rfl rfl (h_gC rfl rfl rfl rfl) rfl ?_
                refine w_p (pc1 := 78) rfl rfl ?_
                refine w_m0 (pc1 := 79) (st1 := .int (nI (b)) :: _) rfl rfl (n_ile (e := F) rfl rfl rfl (by omega) (s1.2.2.1)) rfl ?_
                refine w_f (a := 107) (b := 82) (bN_ne_f (a := gTb G) (b := b) (by omega) (by omega) (by omega)) rfl rfl ?_
                refine w_p (pc1 := 83) rfl rfl ?_
                refine w_m0 (pc1 := 86) rfl rfl (h_gC rfl rfl rfl rfl) rfl ?_
                refine w_p (pc1 := 87) rfl rfl ?_
                refine w_m0 (pc1 := 88) (st1 := .int (nI (gTi G)) :: _) rfl rfl (n_ile (e := g) rfl rfl rfl (by omega) (hT.1.2.1)) rfl ?_
                refine w_p (pc1 := 89) rfl rfl ?_
                refine w_f (a := 107) (b := 92) (bN_ne_f (a := gTi G) (b := ti) (by omega) (by omega) (by omega)) rfl rfl ?_
                refine w_p (pc1 := 93) rfl rfl ?_
                refine w_m0 (pc1 := 96) rfl rfl (h_gC rfl rfl rfl rfl) rfl ?_
                refine w_p (pc1 := 97) rfl rfl ?_
                refine w_m0 (pc1 := 98) (st1 := .int (nI (gEv G)) :: _) rfl rfl (n_ile (e := g) rfl rfl rfl (by omega) (hT.1.2.2.1)) rfl ?_
                refine w_p (pc1 := 99) rfl rfl ?_
                refine w_m0 (pc1 := 102) rfl rfl (h_gC rfl rfl rfl rfl) rfl ?_
                refine w_p (pc1 := 103) rfl rfl ?_
                refine w_m0 (pc1 := 104) (st1 := .int (nI (kd)) :: _) rfl rfl (n_ile (e := F) rfl rfl rfl (by omega) (s1.2.1)) rfl ?_
                refine w_t (a := 108) (b := 107) (bN_eq_t (a := gEv G) (b := kd) (by omega) (by omega) (by omega)) rfl rfl ?_
                refine w_p (pc1 := 109) rfl rfl ?_
                refine w_m0 (pc1 := 112) rfl rfl (h_gC rfl rfl rfl rfl) rfl ?_
                refine w_p (pc1 := 113) rfl rfl ?_
                refine w_m0 (pc1 := 114) (st1 := .int 1 :: _) rfl rfl (n_ble (e := g) rfl rfl (by decide) rfl (by omega) (tw)) rfl ?_
                refine w_f (a := 143) (b := 117) rfl rfl rfl ?_
                refine w_p (pc1 := 118) rfl rfl ?_
                refine w_p (pc1 := 120) (st1 := .int 24 :: _) rfl rfl ?_
                refine w_p (pc1 := 121) rfl rfl ?_
                refine w_iadd (pc1 := 122) (u := nI (24)) (v := nI (g)) (z := nI (24 + g)) rfl (nK_add) rfl ?_
                refine w_p (pc1 := 123) (st1 := .int 0 :: _) rfl rfl ?_
                refine w_p (pc1 := 124) rfl rfl ?_
                refine w_m0 (pc1 := 127) rfl rfl (h_gC rfl rfl rfl rfl) rfl ?_
                refine w_p (pc1 := 129) (st1 := .int 24 :: _) rfl rfl ?_
                refine w_p (pc1 := 130) rfl rfl ?_
                refine w_iadd (pc1 := 131) (u := nI (24)) (v := nI (g)) (z := nI (24 + g)) rfl (nK_add) rfl ?_
                refine w_m0 (pc1 := 132) (st1 := .int (nI (Q.length)) :: _) rfl rfl (n_ile (e := 24 + g) rfl rfl rfl (by omega) (tw2)) rfl ?_
                refine w_p (pc1 := 133) (st1 := .int 0 :: _) rfl rfl ?_
                refine w_p (pc1 := 134) rfl rfl ?_
                refine w_p (pc1 := 135) (st1 := .int 0 :: _) rfl rfl ?_
                refine w_ji (pc1 := 138) (vs := [.ref 176, .int (nI (24 + g)), .int 0, .int (nI (Q.length)), .int 0, .int (nI (F)), .int 0]) (rest := []) (hwk) rfl rfl rfl (fun _ _ => rfl) rfl (by exact cl_v my_251 rfl rfl rfl (Nat.le_of_ble_eq_true rfl) rfl (MH_obj rfl rfl) rfl (by decide) rfl rfl) (by rfl) (Nat.le_of_ble_eq_true rfl) (Nat.le_of_ble_eq_true rfl) rfl (fun v h m hq => ?_) (fun _ _ _ e => e.elim)
                obtain ⟨rfl, ⟨C2, ⟨f1, f2⟩, rfl⟩, rfl⟩ := hq
                rw [hv]
                have f1 : C2.1 76 74 = 0 := by rw [f1, hfl]; rfl
                have h89 : C2.1 76 89 = 0 := (f2.1 76 89 (by omega)).trans E.2.2.2.2.2.1
                refine w_p (pc1 := 139) (st1 := .long 1 :: _) rfl rfl ?_
                refine w_p (pc1 := 140) rfl rfl ?_
                refine w_t (a := 147) (b := 143) (lb_ne_t (by decide)) rfl rfl ?_
                refine w_p (pc1 := 148) (st1 := .int 0 :: _) rfl rfl ?_
                refine w_p (pc1 := 150) (al1 := [(4, .int 0), (3, .int (nI (g))), (0, .ref 176), (1, .int (nI (F))), (2, .int (nI (ti)))]) rfl rfl ?_
                refine w_p (pc1 := 151) rfl rfl ?_
                refine w_m0 (pc1 := 154) (st1 := .int 0 :: _) rfl rfl (h_gIe (j := 74) rfl rfl rfl rfl rfl (f1)) rfl ?_
                refine w_t (a := 162) (b := 157) rfl rfl rfl ?_
                refine w_p (pc1 := 163) rfl rfl ?_
                refine w_m0 (pc1 := 166) (st1 := .int 0 :: _) rfl rfl (h_gIe (j := 89) rfl rfl rfl rfl rfl (h89)) rfl ?_
                refine w_f (a := 174) (b := 169) rfl rfl rfl ?_
                refine w_p (pc1 := 171) rfl rfl ?_
                refine w_f (a := 175) (b := 174) rfl rfl rfl ?_
                refine w_r rfl rfl rfl (fun _ _ => rfl) rfl ?_
                exact ⟨rfl, ⟨C2, Or.inl ⟨N, e2, TB_W f2 f1 B1, frQ_t q1 (frQ_W f2)⟩, rfl⟩, rfl⟩
              · have e2 : fir1 S (stp S m) b ti kd O g (N, σ) = act1 S (stp S m) O (gAc G) (N, σ) := by rw [e1, e3, hfl]
                refine w_p (pc1 := 1) rfl rfl ?_
                refine w_m0 (pc1 := 4) rfl rfl (h_gC rfl rfl rfl rfl) rfl ?_
                refine w_p (pc1 := 5) rfl rfl ?_
                refine w_m0 (pc1 := 6) (st1 := .int (nI (g)) :: _) rfl rfl (n_ile (e := F) rfl rfl rfl (by omega) (hs.2.2.2.2.2)) rfl ?_
                refine w_p (pc1 := 7) (al1 := [(3, .int (nI (g))), (0, .ref 176), (1, .int (nI (F))), (2, .int (nI (ti)))]) rfl rfl ?_
                refine w_p (pc1 := 8) rfl rfl ?_
                refine w_p (pc1 := 10) (st1 := .int 8 :: _) rfl rfl ?_
                refine w_t (a := 48) (b := 13) (bN_ne_t (a := g) (b := 8) (by omega) (by omega) (by omega)) rfl rfl ?_
                refine w_p (pc1 := 49) rfl rfl ?_
                refine w_m0 (pc1 := 52) rfl rfl (h_gC rfl rfl rfl rfl) rfl ?_
                refine w_p (pc1 := 53) rfl rfl ?_
                refine w_p (pc1 := 54) rfl rfl ?_
                refine w_m0 (pc1 := 55) (st1 := .int (nI (g)) :: _) rfl rfl (n_ile (e := F) rfl rfl rfl (by omega) (hs.2.2.2.2.2)) rfl ?_
                refine w_p (pc1 := 56) (st1 := .int 1 :: _) rfl rfl ?_
                refine w_iadd (pc1 := 57) (u := nI (g)) (v := nI (1)) (z := nI (g + 1)) rfl (nK_add) rfl ?_
                refine w_m0 (pc1 := 58) rfl rfl (n_is (e := F) rfl rfl rfl (by omega)) rfl ?_
                rw [hC1]
                refine w_p (pc1 := 59) rfl rfl ?_
                refine w_m0 (pc1 := 62) rfl rfl (h_gC rfl rfl rfl rfl) rfl ?_
                refine w_p (pc1 := 63) rfl rfl ?_
                refine w_m0 (pc1 := 64) (st1 := .int 1 :: _) rfl rfl (n_ble (e := g) rfl rfl (by decide) rfl (by omega) (t0)) rfl ?_
                refine w_f (a := 107) (b := 67) rfl rfl rfl ?_
                refine w_p (pc1 := 68) rfl rfl ?_
                refine w_m0 (pc1 := 71) rfl rfl (h_gC rfl rfl rfl rfl) rfl ?_
                refine w_p (pc1 := 72) rfl rfl ?_
                refine w_m0 (pc1 := 73) (st1 := .int (nI (gTb G)) :: _) rfl rfl (n_ile (e := g) rfl rfl rfl (by omega) (hT.1.1)) rfl ?_
                refine w_p (pc1 := 74) rfl rfl ?_
                refine w_m0 (pc1 := 77) rfl rfl (h_gC rfl rfl rfl rfl) rfl ?_
                refine w_p (pc1 := 78) rfl rfl ?_
                refine w_m0 (pc1 := 79) (st1 := .int (nI (b)) :: _) rfl rfl (n_ile (e := F) rfl rfl rfl (by omega) (s1.2.2.1)) rfl ?_
                refine w_f (a := 107) (b := 82) (bN_ne_f (a := gTb G) (b := b) (by omega) (by omega) (by omega)) rfl rfl ?_
                refine w_p (pc1 := 83) rfl rfl ?_
                refine w_m0 (pc1 := 86) rfl rfl (h_gC rfl rfl rfl rfl) rfl ?_
                refine w_p (pc1 := 87) rfl rfl ?_
                refine w_m0 (pc1 := 88) (st1 := .int (nI (gTi G)) :: _) rfl rfl (n_ile (e := g) rfl rfl rfl (by omega) (hT.1.2.1)) rfl ?_
                refine w_p (pc1 := 89) rfl rfl ?_
                refine w_f (a := 107) (b := 92) (bN_ne_f (a := gTi G) (b := ti) (by omega) (by omega) (by omega)) rfl rfl ?_
                refine w_p (pc1 := 93) rfl rfl ?_
                refine w_m0 (pc1 := 96) rfl rfl (h_gC rfl rfl rfl rfl) rfl ?_
                refine w_p (pc1 := 97) rfl rfl ?_
                refine w_m0 (pc1 := 98) (st1 := .int (nI (gEv G)) :: _) rfl rfl (n_ile (e := g) rfl rfl rfl (by omega) (hT.1.2.2.1)) rfl ?_
                refine w_p (pc1 := 99) rfl rfl ?_
                refine w_m0 (pc1 := 102) rfl rfl (h_gC rfl rfl rfl rfl) rfl ?_
                refine w_p (pc1 := 103) rfl rfl ?_
                refine w_m0 (pc1 := 104) (st1 := .int (nI (kd)) :: _) rfl rfl (n_ile (e := F) rfl rfl rfl (by omega) (s1.2.1)) rfl ?_
                refine w_t (a := 108) (b := 107) (bN_eq_t (a := gEv G) (b := kd) (by omega) (by omega) (by omega)) rfl rfl ?_
                refine w_p (pc1 := 109) rfl rfl ?_
                refine w_m0 (pc1 := 112) rfl rfl (h_gC rfl rfl rfl rfl) rfl ?_
                refine w_p (pc1 := 113) rfl rfl ?_
                refine w_m0 (pc1 := 114) (st1 := .int 1 :: _) rfl rfl (n_ble (e := g) rfl rfl (by decide) rfl (by omega) (tw)) rfl ?_
                refine w_f (a := 143) (b := 117) rfl rfl rfl ?_
                refine w_p (pc1 := 118) rfl rfl ?_
                refine w_p (pc1 := 120) (st1 := .int 24 :: _) rfl rfl ?_
                refine w_p (pc1 := 121) rfl rfl ?_
                refine w_iadd (pc1 := 122) (u := nI (24)) (v := nI (g)) (z := nI (24 + g)) rfl (nK_add) rfl ?_
                refine w_p (pc1 := 123) (st1 := .int 0 :: _) rfl rfl ?_
                refine w_p (pc1 := 124) rfl rfl ?_
                refine w_m0 (pc1 := 127) rfl rfl (h_gC rfl rfl rfl rfl) rfl ?_
                refine w_p (pc1 := 129) (st1 := .int 24 :: _) rfl rfl ?_
                refine w_p (pc1 := 130) rfl rfl ?_
                refine w_iadd (pc1 := 131) (u := nI (24)) (v := nI (g)) (z := nI (24 + g)) rfl (nK_add) rfl ?_
                refine w_m0 (pc1 := 132) (st1 := .int (nI (Q.length)) :: _) rfl rfl (n_ile (e := 24 + g) rfl rfl rfl (by omega) (tw2)) rfl ?_
                refine w_p (pc1 := 133) (st1 := .int 0 :: _) rfl rfl ?_
                refine w_p (pc1 := 134) rfl rfl ?_
                refine w_p (pc1 := 135) (st1 := .int 0 :: _) rfl rfl ?_
                refine w_ji (pc1 := 138) (vs := [.ref 176, .int (nI (24 + g)), .int 0, .int (nI (Q.length)), .int 0, .int (nI (F)), .int 0]) (rest := []) (hwk) rfl rfl rfl (fun _ _ => rfl) rfl (by exact cl_v my_251 rfl rfl rfl (Nat.le_of_ble_eq_true rfl) rfl (MH_obj rfl rfl) rfl (by decide) rfl rfl) (by rfl) (Nat.le_of_ble_eq_true rfl) (Nat.le_of_ble_eq_true rfl) rfl (fun v h m hq => ?_) (fun _ _ _ e => e.elim)
                obtain ⟨rfl, ⟨C2, ⟨f1, f2⟩, rfl⟩, rfl⟩ := hq
                rw [hv]
                have f1 : C2.1 76 74 = 0 := by rw [f1, hfl]; rfl
                have h89 : C2.1 76 89 = 0 := (f2.1 76 89 (by omega)).trans E.2.2.2.2.2.1
                refine w_p (pc1 := 139) (st1 := .long 1 :: _) rfl rfl ?_
                refine w_p (pc1 := 140) rfl rfl ?_
                refine w_f (a := 147) (b := 143) (lb_ne_f (by rfl)) rfl rfl ?_
                refine w_p (pc1 := 144) (st1 := .int 1 :: _) rfl rfl ?_
                refine w_p (pc1 := 148) rfl rfl ?_
                refine w_p (pc1 := 150) (al1 := [(4, .int 1), (3, .int (nI (g))), (0, .ref 176), (1, .int (nI (F))), (2, .int (nI (ti)))]) rfl rfl ?_
                refine w_p (pc1 := 151) rfl rfl ?_
                refine w_m0 (pc1 := 154) (st1 := .int 0 :: _) rfl rfl (h_gIe (j := 74) rfl rfl rfl rfl rfl (f1)) rfl ?_
                refine w_t (a := 162) (b := 157) rfl rfl rfl ?_
                refine w_p (pc1 := 163) rfl rfl ?_
                refine w_m0 (pc1 := 166) (st1 := .int 0 :: _) rfl rfl (h_gIe (j := 89) rfl rfl rfl rfl rfl (h89)) rfl ?_
                refine w_f (a := 174) (b := 169) rfl rfl rfl ?_
                refine w_p (pc1 := 171) rfl rfl ?_
                refine w_t (a := 175) (b := 174) rfl rfl rfl ?_
                exact tr175 hg hF hb hkd ho o5 (TRM_Q (frQ_W (f := 0) f2) hT) (TB_W f2 f1 B1) (frQ_t q1 (frQ_W f2)) e2
        · have e1 : fir1 S (stp S m) b ti kd O g (N, σ) = ((N, σ), none) := by
            rw [e0, hG]
            exact if_neg (fun z => h3 z.2.2)
          refine w_p (pc1 := 1) rfl rfl ?_
          refine w_m0 (pc1 := 4) rfl rfl (h_gC rfl rfl rfl rfl) rfl ?_
          refine w_p (pc1 := 5) rfl rfl ?_
          refine w_m0 (pc1 := 6) (st1 := .int (nI (g)) :: _) rfl rfl (n_ile (e := F) rfl rfl rfl (by omega) (hs.2.2.2.2.2)) rfl ?_
          refine w_p (pc1 := 7) (al1 := [(3, .int (nI (g))), (0, .ref 176), (1, .int (nI (F))), (2, .int (nI (ti)))]) rfl rfl ?_
          refine w_p (pc1 := 8) rfl rfl ?_
          refine w_p (pc1 := 10) (st1 := .int 8 :: _) rfl rfl ?_
          refine w_t (a := 48) (b := 13) (bN_ne_t (a := g) (b := 8) (by omega) (by omega) (by omega)) rfl rfl ?_
          refine w_p (pc1 := 49) rfl rfl ?_
          refine w_m0 (pc1 := 52) rfl rfl (h_gC rfl rfl rfl rfl) rfl ?_
          refine w_p (pc1 := 53) rfl rfl ?_
          refine w_p (pc1 := 54) rfl rfl ?_
          refine w_m0 (pc1 := 55) (st1 := .int (nI (g)) :: _) rfl rfl (n_ile (e := F) rfl rfl rfl (by omega) (hs.2.2.2.2.2)) rfl ?_
          refine w_p (pc1 := 56) (st1 := .int 1 :: _) rfl rfl ?_
          refine w_iadd (pc1 := 57) (u := nI (g)) (v := nI (1)) (z := nI (g + 1)) rfl (nK_add) rfl ?_
          refine w_m0 (pc1 := 58) rfl rfl (n_is (e := F) rfl rfl rfl (by omega)) rfl ?_
          rw [hC1]
          refine w_p (pc1 := 59) rfl rfl ?_
          refine w_m0 (pc1 := 62) rfl rfl (h_gC rfl rfl rfl rfl) rfl ?_
          refine w_p (pc1 := 63) rfl rfl ?_
          refine w_m0 (pc1 := 64) (st1 := .int 1 :: _) rfl rfl (n_ble (e := g) rfl rfl (by decide) rfl (by omega) (t0)) rfl ?_
          refine w_f (a := 107) (b := 67) rfl rfl rfl ?_
          refine w_p (pc1 := 68) rfl rfl ?_
          refine w_m0 (pc1 := 71) rfl rfl (h_gC rfl rfl rfl rfl) rfl ?_
          refine w_p (pc1 := 72) rfl rfl ?_
          refine w_m0 (pc1 := 73) (st1 := .int (nI (gTb G)) :: _) rfl rfl (n_ile (e := g) rfl rfl rfl (by omega) (hT.1.1)) rfl ?_
          refine w_p (pc1 := 74) rfl rfl ?_
          refine w_m0 (pc1 := 77) rfl rfl (h_gC rfl rfl rfl rfl) rfl ?_
          refine w_p (pc1 := 78) rfl rfl ?_
          refine w_m0 (pc1 := 79) (st1 := .int (nI (b)) :: _) rfl rfl (n_ile (e := F) rfl rfl rfl (by omega) (s1.2.2.1)) rfl ?_
          refine w_f (a := 107) (b := 82) (bN_ne_f (a := gTb G) (b := b) (by omega) (by omega) (by omega)) rfl rfl ?_
          refine w_p (pc1 := 83) rfl rfl ?_
          refine w_m0 (pc1 := 86) rfl rfl (h_gC rfl rfl rfl rfl) rfl ?_
          refine w_p (pc1 := 87) rfl rfl ?_
          refine w_m0 (pc1 := 88) (st1 := .int (nI (gTi G)) :: _) rfl rfl (n_ile (e := g) rfl rfl rfl (by omega) (hT.1.2.1)) rfl ?_
          refine w_p (pc1 := 89) rfl rfl ?_
          refine w_f (a := 107) (b := 92) (bN_ne_f (a := gTi G) (b := ti) (by omega) (by omega) (by omega)) rfl rfl ?_
          refine w_p (pc1 := 93) rfl rfl ?_
          refine w_m0 (pc1 := 96) rfl rfl (h_gC rfl rfl rfl rfl) rfl ?_
          refine w_p (pc1 := 97) rfl rfl ?_
          refine w_m0 (pc1 := 98) (st1 := .int (nI (gEv G)) :: _) rfl rfl (n_ile (e := g) rfl rfl rfl (by omega) (hT.1.2.2.1)) rfl ?_
          refine w_p (pc1 := 99) rfl rfl ?_
          refine w_m0 (pc1 := 102) rfl rfl (h_gC rfl rfl rfl rfl) rfl ?_
          refine w_p (pc1 := 103) rfl rfl ?_
          refine w_m0 (pc1 := 104) (st1 := .int (nI (kd)) :: _) rfl rfl (n_ile (e := F) rfl rfl rfl (by omega) (s1.2.1)) rfl ?_
          refine w_f (a := 108) (b := 107) (bN_eq_f (a := gEv G) (b := kd) (by omega) (by omega) (by omega)) rfl rfl ?_
          refine w_r rfl rfl rfl (fun _ _ => rfl) rfl ?_
          exact ⟨rfl, ⟨C1, Or.inl ⟨N, e1, B1, q1⟩, rfl⟩, rfl⟩
      · have e1 : fir1 S (stp S m) b ti kd O g (N, σ) = ((N, σ), none) := by
          rw [e0, hG]
          exact if_neg (fun z => h2 z.2.1)
        refine w_p (pc1 := 1) rfl rfl ?_
        refine w_m0 (pc1 := 4) rfl rfl (h_gC rfl rfl rfl rfl) rfl ?_
        refine w_p (pc1 := 5) rfl rfl ?_
        refine w_m0 (pc1 := 6) (st1 := .int (nI (g)) :: _) rfl rfl (n_ile (e := F) rfl rfl rfl (by omega) (hs.2.2.2.2.2)) rfl ?_
        refine w_p (pc1 := 7) (al1 := [(3, .int (nI (g))), (0, .ref 176), (1, .int (nI (F))), (2, .int (nI (ti)))]) rfl rfl ?_
        refine w_p (pc1 := 8) rfl rfl ?_
        refine w_p (pc1 := 10) (st1 := .int 8 :: _) rfl rfl ?_
        refine w_t (a := 48) (b := 13) (bN_ne_t (a := g) (b := 8) (by omega) (by omega) (by omega)) rfl rfl ?_
        refine w_p (pc1 := 49) rfl rfl ?_
        refine w_m0 (pc1 := 52) rfl rfl (h_gC rfl rfl rfl rfl) rfl ?_
        refine w_p (pc1 := 53) rfl rfl ?_
        refine w_p (pc1 := 54) rfl rfl ?_
        refine w_m0 (pc1 := 55) (st1 := .int (nI (g)) :: _) rfl rfl (n_ile (e := F) rfl rfl rfl (by omega) (hs.2.2.2.2.2)) rfl ?_
        refine w_p (pc1 := 56) (st1 := .int 1 :: _) rfl rfl ?_
        refine w_iadd (pc1 := 57) (u := nI (g)) (v := nI (1)) (z := nI (g + 1)) rfl (nK_add) rfl ?_
        refine w_m0 (pc1 := 58) rfl rfl (n_is (e := F) rfl rfl rfl (by omega)) rfl ?_
        rw [hC1]
        refine w_p (pc1 := 59) rfl rfl ?_
        refine w_m0 (pc1 := 62) rfl rfl (h_gC rfl rfl rfl rfl) rfl ?_
        refine w_p (pc1 := 63) rfl rfl ?_
        refine w_m0 (pc1 := 64) (st1 := .int 1 :: _) rfl rfl (n_ble (e := g) rfl rfl (by decide) rfl (by omega) (t0)) rfl ?_
        refine w_f (a := 107) (b := 67) rfl rfl rfl ?_
        refine w_p (pc1 := 68) rfl rfl ?_
        refine w_m0 (pc1 := 71) rfl rfl (h_gC rfl rfl rfl rfl) rfl ?_
        refine w_p (pc1 := 72) rfl rfl ?_
        refine w_m0 (pc1 := 73) (st1 := .int (nI (gTb G)) :: _) rfl rfl (n_ile (e := g) rfl rfl rfl (by omega) (hT.1.1)) rfl ?_
        refine w_p (pc1 := 74) rfl rfl ?_
        refine w_m0 (pc1 := 77) rfl rfl (h_gC rfl rfl rfl rfl) rfl ?_
        refine w_p (pc1 := 78) rfl rfl ?_
        refine w_m0 (pc1 := 79) (st1 := .int (nI (b)) :: _) rfl rfl (n_ile (e := F) rfl rfl rfl (by omega) (s1.2.2.1)) rfl ?_
        refine w_f (a := 107) (b := 82) (bN_ne_f (a := gTb G) (b := b) (by omega) (by omega) (by omega)) rfl rfl ?_
        refine w_p (pc1 := 83) rfl rfl ?_
        refine w_m0 (pc1 := 86) rfl rfl (h_gC rfl rfl rfl rfl) rfl ?_
        refine w_p (pc1 := 87) rfl rfl ?_
        refine w_m0 (pc1 := 88) (st1 := .int (nI (gTi G)) :: _) rfl rfl (n_ile (e := g) rfl rfl rfl (by omega) (hT.1.2.1)) rfl ?_
        refine w_p (pc1 := 89) rfl rfl ?_
        refine w_t (a := 107) (b := 92) (bN_ne_t (a := gTi G) (b := ti) (by omega) (by omega) (by omega)) rfl rfl ?_
        refine w_r rfl rfl rfl (fun _ _ => rfl) rfl ?_
        exact ⟨rfl, ⟨C1, Or.inl ⟨N, e1, B1, q1⟩, rfl⟩, rfl⟩
    · have e1 : fir1 S (stp S m) b ti kd O g (N, σ) = ((N, σ), none) := by
        rw [e0, hG]
        exact if_neg (fun z => h1 z.1)
      refine w_p (pc1 := 1) rfl rfl ?_
      refine w_m0 (pc1 := 4) rfl rfl (h_gC rfl rfl rfl rfl) rfl ?_
      refine w_p (pc1 := 5) rfl rfl ?_
      refine w_m0 (pc1 := 6) (st1 := .int (nI (g)) :: _) rfl rfl (n_ile (e := F) rfl rfl rfl (by omega) (hs.2.2.2.2.2)) rfl ?_
      refine w_p (pc1 := 7) (al1 := [(3, .int (nI (g))), (0, .ref 176), (1, .int (nI (F))), (2, .int (nI (ti)))]) rfl rfl ?_
      refine w_p (pc1 := 8) rfl rfl ?_
      refine w_p (pc1 := 10) (st1 := .int 8 :: _) rfl rfl ?_
      refine w_t (a := 48) (b := 13) (bN_ne_t (a := g) (b := 8) (by omega) (by omega) (by omega)) rfl rfl ?_
      refine w_p (pc1 := 49) rfl rfl ?_
      refine w_m0 (pc1 := 52) rfl rfl (h_gC rfl rfl rfl rfl) rfl ?_
      refine w_p (pc1 := 53) rfl rfl ?_
      refine w_p (pc1 := 54) rfl rfl ?_
      refine w_m0 (pc1 := 55) (st1 := .int (nI (g)) :: _) rfl rfl (n_ile (e := F) rfl rfl rfl (by omega) (hs.2.2.2.2.2)) rfl ?_
      refine w_p (pc1 := 56) (st1 := .int 1 :: _) rfl rfl ?_
      refine w_iadd (pc1 := 57) (u := nI (g)) (v := nI (1)) (z := nI (g + 1)) rfl (nK_add) rfl ?_
      refine w_m0 (pc1 := 58) rfl rfl (n_is (e := F) rfl rfl rfl (by omega)) rfl ?_
      rw [hC1]
      refine w_p (pc1 := 59) rfl rfl ?_
      refine w_m0 (pc1 := 62) rfl rfl (h_gC rfl rfl rfl rfl) rfl ?_
      refine w_p (pc1 := 63) rfl rfl ?_
      refine w_m0 (pc1 := 64) (st1 := .int 1 :: _) rfl rfl (n_ble (e := g) rfl rfl (by decide) rfl (by omega) (t0)) rfl ?_
      refine w_f (a := 107) (b := 67) rfl rfl rfl ?_
      refine w_p (pc1 := 68) rfl rfl ?_
      refine w_m0 (pc1 := 71) rfl rfl (h_gC rfl rfl rfl rfl) rfl ?_
      refine w_p (pc1 := 72) rfl rfl ?_
      refine w_m0 (pc1 := 73) (st1 := .int (nI (gTb G)) :: _) rfl rfl (n_ile (e := g) rfl rfl rfl (by omega) (hT.1.1)) rfl ?_
      refine w_p (pc1 := 74) rfl rfl ?_
      refine w_m0 (pc1 := 77) rfl rfl (h_gC rfl rfl rfl rfl) rfl ?_
      refine w_p (pc1 := 78) rfl rfl ?_
      refine w_m0 (pc1 := 79) (st1 := .int (nI (b)) :: _) rfl rfl (n_ile (e := F) rfl rfl rfl (by omega) (s1.2.2.1)) rfl ?_
      refine w_t (a := 107) (b := 82) (bN_ne_t (a := gTb G) (b := b) (by omega) (by omega) (by omega)) rfl rfl ?_
      refine w_r rfl rfl rfl (fun _ _ => rfl) rfl ?_
      exact ⟨rfl, ⟨C1, Or.inl ⟨N, e1, B1, q1⟩, rfl⟩, rfl⟩
set_option maxRecDepth 100000 in
theorem trM_0 (hS : ∀ n, m = n + 1 → STPM L xs S n) (hm : m + D = 12) (ho : okSt S) (hF : F + 1 ≤ 2 * D) (hb : b < 6) (hkd : kd < 3) : ∀ (n2 g : Nat) (C : co_T) (N : rw_F) (σ : es_T), g + n2 = 8 → TB S σ D F b kd i0 0 (nI g) N O C → (∀ N' σ' C', lop (fir1 S (stp S m) b 0 kd O) (rng g n2) (N, σ) = ((N', σ'), none) → TB S σ' D F b kd i0 0 (nI 8) N' O C' → frQ F C C' → Wd L xs (d + 8) y_257 (0, [(0, .ref 176)], [], MH C' t, sl) P X) → (∀ s e C', lop (fir1 S (stp S m) b 0 kd O) (rng g n2) (N, σ) = (s, some e) → MX C' s.2 → spM C' e → (∃ y, C'.1 76 74 = ck y) → frQ F C C' → P none (MH C' t) sl) → Wd L xs (d + 8) y_257 (0, [(0, .ref 176)], [], MH C t, sl) P X
  | 0, g, C, N, σ, hg, B, HN, HX => by
    obtain rfl : g = 8 := by omega
    exact HN N σ C rfl B frQ_r
  | n2 + 1, g, C, N, σ, hg, B, HN, HX => by
    have hD := B.2.1.2.2.2.1.2
    have IH := fun C' N' σ' => trM_0 hS hm ho hF hb hkd n2 (g + 1) C' N' σ' (by omega)
    refine goS (f := F) B.2.1.2.2.2.2.1.1 (by omega) B.2.1.2.2.2.2.2.1 B.2.2.1.1 (m_265_0 (by omega) B.2.2.1.2.2.2.2.1 (m_266 (ti := 0) (m := m) (by omega) (by omega) hb hkd (by omega) ho B)) (fun C1 hC1 => ?_)
    rcases hC1 with ⟨N', e1, B1, q1⟩ | ⟨e, e1, h9, hX, hsp, hy, q1⟩ | ⟨a, w2, w3, C2, e1, ha, hok, hw, A, B2, q2, hB⟩
    · exact IH C1 N' σ B1 (fun N2 σ2 C2 h1 h2 h3 => HN N2 σ2 C2 ((lop_n e1).trans h1) h2 (frQ_t q1 h3)) (fun s e C2 h1 h2 h3 h4 h5 => HX s e C2 ((lop_n e1).trans h1) h2 h3 h4 (frQ_t q1 h5))
    · exact goE h9 (HX (N, σ) e C1 (lop_s e1) hX hsp hy q1)
    · have hw6 := w3k6 (kd := kd) ho hb
      refine bcM (F := F + 1) (row := F) (w0 := sWd S b) hS hm ho (by omega) (by omega) B2.1 A B2.2.1 ha hok (Or.inl (by omega)) (by omega) (by omega) (fun c hc => B2.2.2.2.1 c (by omega)) (fun c hc => B2.2.2.2.2 c (by omega)) hB ⟨fun h C3 f1 f2 => ?_, fun e C3 f1 f2 f3 f4 f5 => ?_⟩
      · rw [h] at e1
        refine IH C3 N _ (TB_Q ho hb f2 f1 B2) (fun N2 σ2 C4 h1 h2 h3 => HN N2 σ2 C4 ((lop_n e1).trans h1) h2 (frQ_t q2 (frQ_t (frQ_u f2 (by omega)) h3))) (fun s e C4 h1 h2 h3 h4 h5 => HX s e C4 ((lop_n e1).trans h1) h2 h3 h4 (frQ_t q2 (frQ_t (frQ_u f2 (by omega)) h5)))
      · rw [f1] at e1
        exact HX (N, (chg S (stp S m) a N O σ).1) e C3 (lop_s e1) f2 f3 f4 (frQ_t q2 (frQ_u f5 (by omega)))
set_option maxRecDepth 100000 in
theorem trM_4 (hS : ∀ n, m = n + 1 → STPM L xs S n) (hm : m + D = 12) (ho : okSt S) (hF : F + 1 ≤ 2 * D) (hb : b < 6) (hkd : kd < 3) : ∀ (n2 g : Nat) (C : co_T) (N : rw_F) (σ : es_T), g + n2 = 8 → TB S σ D F b kd i0 4 (nI g) N O C → (∀ N' σ' C', lop (fir1 S (stp S m) b 1 kd O) (rng g n2) (N, σ) = ((N', σ'), none) → TB S σ' D F b kd i0 4 (nI 8) N' O C' → frQ F C C' → Wd L xs (d + 8) y_257 (0, [(0, .ref 176)], [], MH C' t, sl) P X) → (∀ s e C', lop (fir1 S (stp S m) b 1 kd O) (rng g n2) (N, σ) = (s, some e) → MX C' s.2 → spM C' e → (∃ y, C'.1 76 74 = ck y) → frQ F C C' → P none (MH C' t) sl) → Wd L xs (d + 8) y_257 (0, [(0, .ref 176)], [], MH C t, sl) P X
  | 0, g, C, N, σ, hg, B, HN, HX => by
    obtain rfl : g = 8 := by omega
    exact HN N σ C rfl B frQ_r
  | n2 + 1, g, C, N, σ, hg, B, HN, HX => by
    have hD := B.2.1.2.2.2.1.2
    have IH := fun C' N' σ' => trM_4 hS hm ho hF hb hkd n2 (g + 1) C' N' σ' (by omega)
    refine goS (f := F) B.2.1.2.2.2.2.1.1 (by omega) B.2.1.2.2.2.2.2.1 B.2.2.1.1 (m_265_4 (by omega) B.2.2.1.2.2.2.2.1 (m_266 (ti := 1) (m := m) (by omega) (by omega) hb hkd (by omega) ho B)) (fun C1 hC1 => ?_)
    rcases hC1 with ⟨N', e1, B1, q1⟩ | ⟨e, e1, h9, hX, hsp, hy, q1⟩ | ⟨a, w2, w3, C2, e1, ha, hok, hw, A, B2, q2, hB⟩
    · exact IH C1 N' σ B1 (fun N2 σ2 C2 h1 h2 h3 => HN N2 σ2 C2 ((lop_n e1).trans h1) h2 (frQ_t q1 h3)) (fun s e C2 h1 h2 h3 h4 h5 => HX s e C2 ((lop_n e1).trans h1) h2 h3 h4 (frQ_t q1 h5))
    · exact goE h9 (HX (N, σ) e C1 (lop_s e1) hX hsp hy q1)
    · have hw6 := w3k6 (kd := kd) ho hb
      refine bcM (F := F + 1) (row := F) (w0 := sWd S b) hS hm ho (by omega) (by omega) B2.1 A B2.2.1 ha hok (Or.inl (by omega)) (by omega) (by omega) (fun c hc => B2.2.2.2.1 c (by omega)) (fun c hc => B2.2.2.2.2 c (by omega)) hB ⟨fun h C3 f1 f2 => ?_, fun e C3 f1 f2 f3 f4 f5 => ?_⟩
      · rw [h] at e1
        refine IH C3 N _ (TB_Q ho hb f2 f1 B2) (fun N2 σ2 C4 h1 h2 h3 => HN N2 σ2 C4 ((lop_n e1).trans h1) h2 (frQ_t q2 (frQ_t (frQ_u f2 (by omega)) h3))) (fun s e C4 h1 h2 h3 h4 h5 => HX s e C4 ((lop_n e1).trans h1) h2 h3 h4 (frQ_t q2 (frQ_t (frQ_u f2 (by omega)) h5)))
      · rw [f1] at e1
        exact HX (N, (chg S (stp S m) a N O σ).1) e C3 (lop_s e1) f2 f3 f4 (frQ_t q2 (frQ_u f5 (by omega)))
end MEa
