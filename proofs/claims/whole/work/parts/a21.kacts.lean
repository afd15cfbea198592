
/-! ONE SIDE'S ENGINE: acts and triggers -/
set_option maxRecDepth 100000 in
theorem frE_j {D F j : Nat} {C : co_T} {z : Int32} (hj : 6 ≤ j) : frE D F C (sI C 24 j z) := ⟨fun k i _ h _ => by rw [sI_1, if_neg (by omega)], fun _ _ _ _ _ => rfl, rfl⟩
section KE5
variable {L : Nat} {xs : Nat → Int32} {C : co_T} {t : ab_H} {d sl D w0 w2 w3 k k0 b c i n : Nat} {S : st_T} {R N O : rw_F} {a : ac_T} {σ : es_T}
set_option maxRecDepth 100000 in
theorem m_109_0 (ho : okSt S) (hS : STP L xs S n (D + 1)) (hD : D < 13) (B : KB C t S σ D w2 w3 N O) (A0 : ACK t k0 a) (hk1 : aKd a = 0) (hb : aTb a = some b) (hb6 : b < 6) (hl : (aSs a).length = sWd S b) (hsok : ∀ s, s ∈ aSs a → okS 0 w2 w3 s) : Wd L xs (4 * n + 12 + 2) y_109 (0, [(0, .ref 124), (1, .ref (241 + k0)), (2, .int (nI (D)))], [], MH C t, sl) (PR C t (sWd S) D (D + 1) sl (chg S (stp S n) a N O σ)) (XR C t D (D + 1) sl (chg S (stp S n) a N O σ)) := by
  have e0 : chg S (stp S n) a N O σ = match insV (sDf S b) N O noF 0 (aSs a) with | none => (σ, some byZ) | some f => stp S n 0 b 0 noF f σ := by unfold chg; rw [if_pos hk1, hb]; rfl
  rw [e0]
  obtain ⟨kc, ks, fc, fs, vw, A⟩ := id A0
  have hA := A.1
  rw [hk1, hb] at hA
  refine w_p (pc1 := 1) rfl rfl ?_
  refine w_f (a := 14) (b := 4) rfl rfl rfl ?_
  refine w_p (pc1 := 5) rfl rfl ?_
  refine w_f (a := 14) (b := 8) (bN_lt_f (a := D) (b := 0) (by omega) (by omega) (by omega)) rfl rfl ?_
  refine w_p (pc1 := 9) rfl rfl ?_
  refine w_p (pc1 := 11) (st1 := .int 12 :: _) rfl rfl ?_
  refine w_t (a := 15) (b := 14) (bN_le_t (a := D) (b := 12) (by omega) (by omega) (by omega)) rfl rfl ?_
  refine w_p (pc1 := 16) rfl rfl ?_
  refine w_m0 (pc1 := 19) (st1 := .int 0 :: _) rfl rfl (x_gf (k := k0) rfl hA rfl) rfl ?_
  refine w_p (pc1 := 48) rfl rfl ?_
  refine w_p (pc1 := 49) (st1 := .int 0 :: _) rfl rfl ?_
  refine w_p (pc1 := 50) (al1 := [(3, .int 0), (0, .ref 124), (1, .ref (241 + k0)), (2, .int (nI (D)))]) rfl rfl ?_
  refine lp_109 (d := 4 * n + 6) (w2 := w2) (w3 := w3) (N := N) (O := O) (C0 := C) (t0 := t) ho hD hk1 hb hb6 hl hsok (aSs a) [] 0 C t noF rfl rfl B.1 A0 (KB_env0 B) (fun c hc => absurd hc (by omega)) frB_r stk_r (fun f C1 t1 q1 q2 q3 q4 => ?_) (fun C1 t1 q1 q2 q3 => ?_) rfl
  · rw [q1]
    have hE1 := KE_B q3 (by omega) B.2.1
    have hcall := Wd_up (d := 4 * n + 12 + 1) (by omega) (hS.1 b noF f σ C1 t1 hb6 (KS_s (KS_B B.1 q3 (by omega)) q4) hE1 q2)
    have hA1 := stk_o q4 hA
    refine w_p (pc1 := 117) rfl rfl ?_
    refine w_p (pc1 := 118) rfl rfl ?_
    refine w_m0 (pc1 := 121) (st1 := .int (nI (b)) :: _) rfl rfl (x_gf (k := k0) rfl hA1 rfl) rfl ?_
    refine w_p (pc1 := 122) rfl rfl ?_
    refine w_p (pc1 := 123) (st1 := .int 1 :: _) rfl rfl ?_
    refine w_iadd (pc1 := 124) (u := nI (D)) (v := nI (1)) (z := nI (D + 1)) rfl (nK_add) rfl ?_
    refine w_ji (pc1 := 127) (vs := [.ref 124, .int (nI (b)), .int (nI (D + 1))]) (rest := []) (hcall) rfl rfl rfl (fun _ _ => rfl) rfl (by exact cl_v my_120 rfl rfl rfl (Nat.le_of_ble_eq_true rfl) rfl (MH_obj rfl rfl) rfl (by decide) rfl rfl) (by rfl) (Nat.le_of_ble_eq_true rfl) (Nat.le_of_ble_eq_true rfl) rfl (fun v h1 d1 hq => ?_) (fun a h1 d1 hq => ?_)
    · obtain ⟨z1, hv, ⟨C9, t9, ⟨z2, z3, z4⟩, hh⟩, hn⟩ := hq
      subst hv; subst hh; subst hn
      refine w_p (pc1 := 182) rfl rfl ?_
      refine w_r rfl rfl rfl (fun _ _ => rfl) rfl ?_
      exact ⟨z1, rfl, ⟨C9, t9, ⟨z2, frE_t (frB_E q3 (by omega)) (frE_u z3 (by omega) (by omega)), stk_t q4 z4⟩, rfl⟩, rfl⟩
    · rcases hq with ⟨e9, C9, t9, ⟨z1, z2, z3, z4, z5⟩, ha, hh, hn⟩
      · subst ha; subst hh; subst hn
        refine Or.inl ⟨ch_new (by decide) rfl, ?_⟩
        exact ⟨e9, C9, t9, ⟨z1, z2, z3, frE_t (frB_E q3 (by omega)) (frE_u z4 (by omega) (by omega)), stk_t q4 z5⟩, rfl, rfl, rfl⟩
  · rw [q1]
    have hE1 := KE_B q2 (by omega) B.2.1
    exact ⟨byZ, sI C1 24 6 4, t1, ⟨rfl, KX_s hE1.2.2, spK_z, frE_t (frB_E q2 (by omega)) frE_s, q3⟩, rfl, rfl, rfl⟩
set_option maxRecDepth 100000 in
theorem m_109_1 (ho : okSt S) (hS : STP L xs S n (D + 1)) (hD : D < 13) (B : KB C t S σ D w2 w3 N O) (A0 : ACK t k0 a) (hk1 : aKd a = 1) (hb : aTb a = some b) (hb6 : b < 6) (hok : okT2 (sWd S b) w2 w3 (aWh a)) (h6 : (aCs a).length ≤ 6) (hl : (aCs a).length = (aSs a).length) (hcw : ∀ c, c ∈ aCs a → c < sWd S b) (hsok : ∀ s, s ∈ aSs a → s ≠ none ∧ okS (sWd S b) w2 w3 s) : Wd L xs (4 * n + 12 + 2) y_109 (0, [(0, .ref 124), (1, .ref (241 + k0)), (2, .int (nI (D)))], [], MH C t, sl) (PR C t (sWd S) D (D + 1) sl (chg S (stp S n) a N O σ)) (XR C t D (D + 1) sl (chg S (stp S n) a N O σ)) := by
  obtain ⟨kc, ks, fc, fs, vw, A⟩ := id A0
  have hA := A.1
  rw [hk1, hb] at hA
  have hcall := m_130_1 (sl := 0) ho hS hD hk1 hb hb6 hok (by omega) hl hcw hsok B A0
  refine w_p (pc1 := 1) rfl rfl ?_
  refine w_f (a := 14) (b := 4) rfl rfl rfl ?_
  refine w_p (pc1 := 5) rfl rfl ?_
  refine w_f (a := 14) (b := 8) (bN_lt_f (a := D) (b := 0) (by omega) (by omega) (by omega)) rfl rfl ?_
  refine w_p (pc1 := 9) rfl rfl ?_
  refine w_p (pc1 := 11) (st1 := .int 12 :: _) rfl rfl ?_
  refine w_t (a := 15) (b := 14) (bN_le_t (a := D) (b := 12) (by omega) (by omega) (by omega)) rfl rfl ?_
  refine w_p (pc1 := 16) rfl rfl ?_
  refine w_m0 (pc1 := 19) (st1 := .int 1 :: _) rfl rfl (x_gf (k := k0) rfl hA rfl) rfl ?_
  refine w_p (pc1 := 130) rfl rfl ?_
  refine w_p (pc1 := 131) rfl rfl ?_
  refine w_p (pc1 := 132) rfl rfl ?_
  refine w_p (pc1 := 133) rfl rfl ?_
  refine w_ji (pc1 := 136) (vs := [.ref 124, .ref (241 + k0), .int (nI (D))]) (rest := []) (hcall) rfl rfl rfl (fun _ _ => rfl) rfl (by exact cl_v my_130 rfl rfl rfl (Nat.le_of_ble_eq_true rfl) rfl (MH_obj rfl rfl) rfl (by decide) rfl rfl) (by rfl) (Nat.le_of_ble_eq_true rfl) (Nat.le_of_ble_eq_true rfl) rfl (fun v h1 d1 hq => ?_) (fun a h1 d1 hq => ?_)
  · obtain ⟨z1, hv, ⟨C9, t9, ⟨z2, z3, z4⟩, hh⟩, hn⟩ := hq
    subst hv; subst hh; subst hn
    refine w_p (pc1 := 182) rfl rfl ?_
    refine w_r rfl rfl rfl (fun _ _ => rfl) rfl ?_
    exact ⟨z1, rfl, ⟨C9, t9, ⟨z2, z3, z4⟩, rfl⟩, rfl⟩
  · rcases hq with ⟨e9, C9, t9, ⟨z1, z2, z3, z4, z5⟩, ha, hh, hn⟩
    · subst ha; subst hh; subst hn
      refine Or.inl ⟨ch_new (by decide) rfl, ?_⟩
      exact ⟨e9, C9, t9, ⟨z1, z2, z3, z4, z5⟩, rfl, rfl, rfl⟩
set_option maxRecDepth 100000 in
theorem m_109_2 (ho : okSt S) (hS : STP L xs S n (D + 1)) (hD : D < 13) (B : KB C t S σ D w2 w3 N O) (A0 : ACK t k0 a) (hk1 : aKd a = 2) (hb : aTb a = some b) (hb6 : b < 6) (hok : okT2 (sWd S b) w2 w3 (aWh a)) : Wd L xs (4 * n + 12 + 2) y_109 (0, [(0, .ref 124), (1, .ref (241 + k0)), (2, .int (nI (D)))], [], MH C t, sl) (PR C t (sWd S) D (D + 1) sl (chg S (stp S n) a N O σ)) (XR C t D (D + 1) sl (chg S (stp S n) a N O σ)) := by
  obtain ⟨kc, ks, fc, fs, vw, A⟩ := id A0
  have hA := A.1
  rw [hk1, hb] at hA
  have hcall := m_130_2 (sl := 0) ho hS hD hk1 hb hb6 hok B A0
  refine w_p (pc1 := 1) rfl rfl ?_
  refine w_f (a := 14) (b := 4) rfl rfl rfl ?_
  refine w_p (pc1 := 5) rfl rfl ?_
  refine w_f (a := 14) (b := 8) (bN_lt_f (a := D) (b := 0) (by omega) (by omega) (by omega)) rfl rfl ?_
  refine w_p (pc1 := 9) rfl rfl ?_
  refine w_p (pc1 := 11) (st1 := .int 12 :: _) rfl rfl ?_
  refine w_t (a := 15) (b := 14) (bN_le_t (a := D) (b := 12) (by omega) (by omega) (by omega)) rfl rfl ?_
  refine w_p (pc1 := 16) rfl rfl ?_
  refine w_m0 (pc1 := 19) (st1 := .int 2 :: _) rfl rfl (x_gf (k := k0) rfl hA rfl) rfl ?_
  refine w_p (pc1 := 130) rfl rfl ?_
  refine w_p (pc1 := 131) rfl rfl ?_
  refine w_p (pc1 := 132) rfl rfl ?_
  refine w_p (pc1 := 133) rfl rfl ?_
  refine w_ji (pc1 := 136) (vs := [.ref 124, .ref (241 + k0), .int (nI (D))]) (rest := []) (hcall) rfl rfl rfl (fun _ _ => rfl) rfl (by exact cl_v my_130 rfl rfl rfl (Nat.le_of_ble_eq_true rfl) rfl (MH_obj rfl rfl) rfl (by decide) rfl rfl) (by rfl) (Nat.le_of_ble_eq_true rfl) (Nat.le_of_ble_eq_true rfl) rfl (fun v h1 d1 hq => ?_) (fun a h1 d1 hq => ?_)
  · obtain ⟨z1, hv, ⟨C9, t9, ⟨z2, z3, z4⟩, hh⟩, hn⟩ := hq
    subst hv; subst hh; subst hn
    refine w_p (pc1 := 182) rfl rfl ?_
    refine w_r rfl rfl rfl (fun _ _ => rfl) rfl ?_
    exact ⟨z1, rfl, ⟨C9, t9, ⟨z2, z3, z4⟩, rfl⟩, rfl⟩
  · rcases hq with ⟨e9, C9, t9, ⟨z1, z2, z3, z4, z5⟩, ha, hh, hn⟩
    · subst ha; subst hh; subst hn
      refine Or.inl ⟨ch_new (by decide) rfl, ?_⟩
      exact ⟨e9, C9, t9, ⟨z1, z2, z3, z4, z5⟩, rfl, rfl, rfl⟩
set_option maxRecDepth 100000 in
theorem m_109 (ho : okSt S) (hS : STP L xs S n (D + 1)) (hD : D < 13) (B : KB C t S σ D w2 w3 N O) (A0 : ACK t k0 a) (hok : okA2 (sWd S) w0 w2 w3 a) (hk : aKd a < 3) : Wd L xs (4 * n + 12 + 2) y_109 (0, [(0, .ref 124), (1, .ref (241 + k0)), (2, .int (nI (D)))], [], MH C t, sl) (PR C t (sWd S) D (D + 1) sl (chg S (stp S n) a N O σ)) (XR C t D (D + 1) sl (chg S (stp S n) a N O σ)) := by
  rcases hok with ⟨h1, b, h2, h3, h4, h5, _⟩ | ⟨h1, b, h2, h3, h4, h5, h6, h7, h8⟩ | ⟨h1, b, h2, h3, h4⟩ | ⟨h1, _⟩ | ⟨h1, _⟩
  · exact m_109_0 ho hS hD B A0 h1 h2 h3 h4 h5
  · exact m_109_1 ho hS hD B A0 h1 h2 h3 h8 h5 h4 h6 h7
  · exact m_109_2 ho hS hD B A0 h1 h2 h3 h4
  · omega
  · omega
/-! let; raise -/
set_option maxRecDepth 100000 in
theorem m_109_3 {l : List op_T} (ho : okSt S) (hD : D < 13) (B : KB C t S σ D w2 w3 N O) (A0 : ACK t k0 a) (hk1 : aKd a = 3) (hb : aTb a = none) (hcs : aCs a = [c]) (hss : aSs a = [some l]) (hc : c < 6) (hok : okS 0 w2 w3 (some l)) : Wd L xs (d + 9) y_109 (0, [(0, .ref 124), (1, .ref (241 + k0)), (2, .int (nI (D)))], [], MH C t, sl) (fun v h m => none = v ∧ (∃ x C' t', (smv noF N O (some l) = some x ∧ bfK C' (46 + D) w2 (upF N c x) ∧ frB (46 + D) C C' ∧ stk t t') ∧ MH C' t' = h) ∧ sl = m) (fun a h m => ∃ t', (smv noF N O (some l) = none ∧ stk t t') ∧ Xk 12 (sI C 24 6 4) t' sl a h m) := by
  obtain ⟨kc, ks, fc, fs, vw, A⟩ := id A0
  have hA := A.1
  rw [hk1, hb] at hA
  have hf := A.2.2.1 0 c (by rw [hcs]; rfl)
  have hfo := A.2.2.2.2.1 0 (some l) (by rw [hss]; rfl)
  have hf : fc 0 = nI c := hf
  obtain ⟨kk, k1, k2, k3, s0, hvf, F, h6f⟩ := id hfo
  have hfn : fs 0 = some (241 + kk) := by cases h : fs 0 with | none => rw [h] at hvf; cases hvf | some q => rw [h] at hvf; cases hvf; rfl
  have hm := smK (L := L) (xs := xs) (d := d + 1) (sl := 0) (envE_K (KB_env0 B) (by omega)) B.1 (by omega) (show foK t 0 (.ref (241 + kk)) (some l) from ⟨kk, k1, k2, k3, s0, rfl, F, h6f⟩) hok
  refine w_p (pc1 := 1) rfl rfl ?_
  refine w_f (a := 14) (b := 4) rfl rfl rfl ?_
  refine w_p (pc1 := 5) rfl rfl ?_
  refine w_f (a := 14) (b := 8) (bN_lt_f (a := D) (b := 0) (by omega) (by omega) (by omega)) rfl rfl ?_
  refine w_p (pc1 := 9) rfl rfl ?_
  refine w_p (pc1 := 11) (st1 := .int 12 :: _) rfl rfl ?_
  refine w_t (a := 15) (b := 14) (bN_le_t (a := D) (b := 12) (by omega) (by omega) (by omega)) rfl rfl ?_
  refine w_p (pc1 := 16) rfl rfl ?_
  refine w_m0 (pc1 := 19) (st1 := .int 3 :: _) rfl rfl (x_gf (k := k0) rfl hA rfl) rfl ?_
  refine w_p (pc1 := 139) rfl rfl ?_
  refine w_p (pc1 := 140) rfl rfl ?_
  refine w_m0 (pc1 := 143) rfl rfl (h_gC rfl rfl rfl rfl) rfl ?_
  refine w_p (pc1 := 144) rfl rfl ?_
  refine w_m0 (pc1 := 145) (st1 := .ref (46 + D + 100) :: _) rfl rfl (n_als (e := D) rfl rfl (by decide) rfl (by omega) (KS_fr B.1 (by omega))) rfl ?_
  refine w_p (pc1 := 146) rfl rfl ?_
  refine w_m0 (pc1 := 149) (st1 := .ref (241 + kc) :: _) rfl rfl (x_gf (k := k0) rfl hA rfl) rfl ?_
  refine w_p (pc1 := 150) (st1 := .int 0 :: _) rfl rfl ?_
  refine w_m0 (pc1 := 151) (st1 := .int (nI (c)) :: _) rfl rfl (x_ile (k := kc) (e := 0) A.2.1 (by omega) (by omega) (hf)) rfl ?_
  refine w_p (pc1 := 152) rfl rfl ?_
  refine w_p (pc1 := 153) rfl rfl ?_
  refine w_m0 (pc1 := 156) (st1 := .ref (241 + ks) :: _) rfl rfl (x_gf (k := k0) rfl hA rfl) rfl ?_
  refine w_p (pc1 := 157) (st1 := .int 0 :: _) rfl rfl ?_
  refine w_m0 (pc1 := 158) (st1 := .ref (241 + kk) :: _) rfl rfl (x_als (k := ks) (e := 0) A.2.2.2.1 (by decide) (by omega) (by omega) (hfn)) rfl ?_
  refine w_p (pc1 := 159) (st1 := .int 0 :: _) rfl rfl ?_
  refine w_p (pc1 := 160) rfl rfl ?_
  refine w_ji (pc1 := 163) (vs := [.ref 124, .ref (241 + kk), .int 0, .int (nI (D))]) (rest := [.int (nI (c)), .ref (46 + D + 100)]) (hm) rfl rfl rfl (fun _ _ => rfl) rfl (by exact cl_v my_111 rfl rfl rfl (Nat.le_of_ble_eq_true rfl) rfl (MH_obj rfl rfl) rfl (by decide) rfl rfl) (by rfl) (Nat.le_of_ble_eq_true rfl) (Nat.le_of_ble_eq_true rfl) rfl (fun v h1 d1 hq => ?_) (fun a h1 d1 hq => ?_)
  · obtain ⟨y, hy, hv, ⟨t1, hs1, hh⟩, hn⟩ := hq
    subst hv; subst hh; subst hn
    refine w_je (pc1 := 166) (vs := [.ref (46 + D + 100), .int (nI (c)), .long (e_V y)]) (rest := []) (st1 := []) (m_142 (d := d + 8) (sl := 0) (kr := 46 + D) (c := c) (skF (by omega)) hc) rfl rfl rfl (fun _ _ => rfl) rfl (by exact cl_s my_142 rfl rfl rfl (Nat.le_of_ble_eq_true rfl) rfl rfl) (by rfl) (Nat.le_of_ble_eq_true rfl) (Nat.le_of_ble_eq_true rfl) rfl (by rfl) ?_
    refine w_p (pc1 := 182) rfl rfl ?_
    refine w_r rfl rfl rfl (fun _ _ => rfl) rfl ?_
    exact ⟨rfl, ⟨y, _, t1, ⟨hy, bfK_u B.2.2.2.1, frB_J, hs1⟩, rfl⟩, rfl⟩
  · rcases hq with ⟨hy, t1, hs1, ha, hh, hn⟩
    · subst ha; subst hh; subst hn
      refine Or.inl ⟨ch_new (by decide) rfl, ?_⟩
      exact ⟨t1, ⟨hy, hs1⟩, rfl, rfl, rfl⟩
set_option maxRecDepth 100000 in
theorem m_109_4 (hD : D < 13) (A0 : ACK t k0 a) (hk1 : aKd a = 4) (hb : aTb a = none) : Wd L xs (d + 7) y_109 (0, [(0, .ref 124), (1, .ref (241 + k0)), (2, .int (nI (D)))], [], MH C t, sl) nP (Xk 12 (sI (sI C 24 11 (aNo a)) 24 6 3) t sl) := by
  obtain ⟨kc, ks, fc, fs, vw, A⟩ := id A0
  have hA := A.1
  rw [hk1, hb] at hA
  refine w_p (pc1 := 1) rfl rfl ?_
  refine w_f (a := 14) (b := 4) rfl rfl rfl ?_
  refine w_p (pc1 := 5) rfl rfl ?_
  refine w_f (a := 14) (b := 8) (bN_lt_f (a := D) (b := 0) (by omega) (by omega) (by omega)) rfl rfl ?_
  refine w_p (pc1 := 9) rfl rfl ?_
  refine w_p (pc1 := 11) (st1 := .int 12 :: _) rfl rfl ?_
  refine w_t (a := 15) (b := 14) (bN_le_t (a := D) (b := 12) (by omega) (by omega) (by omega)) rfl rfl ?_
  refine w_p (pc1 := 16) rfl rfl ?_
  refine w_m0 (pc1 := 19) (st1 := .int 4 :: _) rfl rfl (x_gf (k := k0) rfl hA rfl) rfl ?_
  refine w_p (pc1 := 169) rfl rfl ?_
  refine w_p (pc1 := 170) rfl rfl ?_
  refine w_p (pc1 := 171) rfl rfl ?_
  refine w_m0 (pc1 := 174) (st1 := .int (aNo a) :: _) rfl rfl (x_gf (k := k0) rfl hA rfl) rfl ?_
  refine w_m0 (pc1 := 177) rfl rfl (h_pI (j := 11) rfl rfl rfl rfl rfl rfl rfl ⟨rfl, rfl⟩ rfl) rfl ?_
  refine w_p (pc1 := 178) rfl rfl ?_
  refine w_p (pc1 := 179) (st1 := .int 3 :: _) rfl rfl ?_
  refine w_ji (pc1 := 182) (vs := [.ref 124, .int 3]) (rest := []) (m_119 (d := d) (sl := 0)) rfl rfl rfl (fun _ _ => rfl) rfl (by exact cl_v my_119 rfl rfl rfl (Nat.le_of_ble_eq_true rfl) rfl (MH_obj rfl rfl) rfl (by decide) rfl rfl) (by rfl) (Nat.le_of_ble_eq_true rfl) (Nat.le_of_ble_eq_true rfl) rfl (fun v h1 d1 hq => ?_) (fun a h1 d1 hq => ?_)
  · exact hq.elim
  · rcases hq with ⟨ha, hh, hn⟩
    · subst ha; subst hh; subst hn
      refine Or.inl ⟨ch_new (by decide) rfl, ?_⟩
      exact ⟨rfl, rfl, rfl⟩
def PF (C : co_T) (t : ab_H) (wd : Nat → Nat) (D w2 sl : Nat) (r : (rw_F × es_T) × Option sp_T) : Option Value → ab_H → Nat → Prop := fun v h m => r.2 = none ∧ none = v ∧ (∃ C' t', (KE C' wd r.1.2 ∧ bfK C' (46 + D) w2 r.1.1 ∧ frE D D C C' ∧ stk t t') ∧ MH C' t' = h) ∧ sl = m
set_option maxHeartbeats 4000000 in
set_option maxRecDepth 100000 in
theorem lp_122 {C0 : co_T} {t0 : ab_H} {tb ti ev : Nat} (ho : okSt S) (hS : STP L xs S n (D + 1)) (hD : D < 13) (hD1 : 1 ≤ D) (htb : tb < 6) (hti : ti < 2) (hev : ev < 3) : ∀ (m i : Nat) (C : co_T) (t : ab_H) (N : rw_F) (σ : es_T), i + m = 8 → KB C t S σ D (wN (sWd S) tb ev) (wO (sWd S) tb ev) N O → frE D D C0 C → stk t0 t → Wd L xs (4 * n + 12 + 3) y_122 (3, [(5, .int (nI (i))), (0, .ref 124), (1, .int (nI (tb))), (2, .int (nI (ti))), (3, .int (nI (ev))), (4, .int (nI (D)))], [], MH C t, sl) (PF C0 t0 (sWd S) D (wN (sWd S) tb ev) sl (lop (fir1 S (stp S n) tb ti ev O) (rng i m) (N, σ))) (XR C0 t0 D D sl ((lop (fir1 S (stp S n) tb ti ev O) (rng i m) (N, σ)).1.2, (lop (fir1 S (stp S n) tb ti ev O) (rng i m) (N, σ)).2))
  | 0, i, C, t, N, σ, hi, B, hf, hst => by
    obtain rfl : i = 8 := by omega
    refine w_p (pc1 := 5) rfl rfl ?_
    refine w_p (pc1 := 7) (st1 := .int 8 :: _) rfl rfl ?_
    refine w_t (a := 69) (b := 10) (bN_ge_t (a := 8) (b := 8) (by omega) (by omega) (by omega)) rfl rfl ?_
    refine w_r rfl rfl rfl (fun _ _ => rfl) rfl ?_
    exact ⟨rfl, rfl, ⟨C, t, ⟨B.2.1, B.2.2.2.1, hf, hst⟩, rfl⟩, rfl⟩
  | m + 1, i, C, t, N, σ, hi, B, hf, hst => by
    have ih := fun C' t' N' σ' => lp_122 (C0 := C0) (t0 := t0) ho hS hD hD1 htb hti hev m (i + 1) C' t' N' σ' (by omega)
    have hop := B.1.2.2.1 i (by omega)
    have er : rng i (m + 1) = i :: rng (i + 1) m := rfl
    rw [er]
    have e0 : fir1 S (stp S n) tb ti ev O i (N, σ) = match sTr S i with | none => ((N, σ), none) | some G => (if gTb G = tb ∧ gTi G = ti ∧ gEv G = ev then (match tst noF N O (gWh G) with | none => ((N, σ), some byZ) | some false => ((N, σ), none) | some true => act1 S (stp S n) O (gAc G) (N, σ)) else ((N, σ), none)) := rfl
    cases hG : sTr S i with
    | none =>
      rw [hG] at hop
      have e1 : fir1 S (stp S n) tb ti ev O i (N, σ) = ((N, σ), none) := by rw [e0, hG]
      rw [lop_n e1]
      refine w_p (pc1 := 5) rfl rfl ?_
      refine w_p (pc1 := 7) (st1 := .int 8 :: _) rfl rfl ?_
      refine w_f (a := 69) (b := 10) (bN_ge_f (a := i) (b := 8) (by omega) (by omega) (by omega)) rfl rfl ?_
      refine w_p (pc1 := 11) rfl rfl ?_
      refine w_m0 (pc1 := 14) rfl rfl (h_gC rfl rfl rfl rfl) rfl ?_
      refine w_p (pc1 := 16) rfl rfl ?_
      refine w_je (pc1 := 19) (vs := [.ref 106, .int (nI (i))]) (rest := []) (st1 := [.null]) (m_123_n (d := 4 * n + 14) (sl := 0) (by omega) hop) rfl rfl rfl (fun _ _ => rfl) rfl (by exact cl_v my_123 rfl rfl rfl (Nat.le_of_ble_eq_true rfl) rfl (MH_obj rfl rfl) rfl (by decide) rfl rfl) (by rfl) (Nat.le_of_ble_eq_true rfl) (Nat.le_of_ble_eq_true rfl) rfl (by rfl) ?_
      refine w_p (pc1 := 21) (al1 := [(6, .null), (5, .int (nI (i))), (0, .ref 124), (1, .int (nI (tb))), (2, .int (nI (ti))), (3, .int (nI (ev))), (4, .int (nI (D)))]) rfl rfl ?_
      refine w_p (pc1 := 23) rfl rfl ?_
      refine w_t (a := 63) (b := 26) rfl rfl rfl ?_
      refine w_iinc (pc1 := 66) (u := nI (i)) (z := nI (i + 1)) (al1 := [(5, .int (nI (i + 1))), (6, .null), (0, .ref 124), (1, .int (nI (tb))), (2, .int (nI (ti))), (3, .int (nI (ev))), (4, .int (nI (D)))]) rfl rfl rfl nK_1 rfl rfl ?_
      refine w_p (pc1 := 3) rfl rfl ?_
      refine Wd_al (al := [(5, .int (nI (i + 1))), (0, .ref 124), (1, .int (nI (tb))), (2, .int (nI (ti))), (3, .int (nI (ev))), (4, .int (nI (D)))]) (sba_p [0, 2, 3, 4, 5, 6] rfl rfl) ?_
      exact ih C t N σ B hf hst
    | some G =>
      rw [hG] at hop
      obtain ⟨kg, hkg, ka, vw, hT, hfo, hac⟩ := hop
      obtain ⟨o1, o2, o3, o4, o5⟩ := ho.2.2 i G (by omega) hG
      have hfor := m_124 (L := L) (xs := xs) (C := C) (d := 4 * n + 14) (sl := 0) hT o1 o2 o3 htb hti hev
      by_cases hm : gTb G = tb ∧ gTi G = ti ∧ gEv G = ev
      · rw [if_pos hm] at hfor
        obtain ⟨m1, m2, m3⟩ := id hm
        subst m1
        subst m2
        subst m3
        have hts := tsK (L := L) (xs := xs) (d := 4 * n + 6) (sl := 0) (envE_K (KB_env0 B) (by omega)) B.1 (by omega) hfo o4
        rcases foK_v hfo with rfl | ⟨kk, rfl⟩
        · cases hx : tst noF N O (gWh G) with
          | none =>
            rw [hx] at hts
            have e1 : fir1 S (stp S n) (gTb G) (gTi G) (gEv G) O i (N, σ) = ((N, σ), some byZ) := by rw [e0, hG]; show (if _ then _ else _) = _; rw [if_pos hm, hx]
            rw [lop_s e1]
            refine w_p (pc1 := 5) rfl rfl ?_
            refine w_p (pc1 := 7) (st1 := .int 8 :: _) rfl rfl ?_
            refine w_f (a := 69) (b := 10) (bN_ge_f (a := i) (b := 8) (by omega) (by omega) (by omega)) rfl rfl ?_
            refine w_p (pc1 := 11) rfl rfl ?_
            refine w_m0 (pc1 := 14) rfl rfl (h_gC rfl rfl rfl rfl) rfl ?_
            refine w_p (pc1 := 16) rfl rfl ?_
            refine w_je (pc1 := 19) (vs := [.ref 106, .int (nI (i))]) (rest := []) (st1 := [.ref (241 + kg)]) (m_123_s (d := 4 * n + 14) (sl := 0) (by omega) hkg) rfl rfl rfl (fun _ _ => rfl) rfl (by exact cl_v my_123 rfl rfl rfl (Nat.le_of_ble_eq_true rfl) rfl (MH_obj rfl rfl) rfl (by decide) rfl rfl) (by rfl) (Nat.le_of_ble_eq_true rfl) (Nat.le_of_ble_eq_true rfl) rfl (by rfl) ?_
            refine w_p (pc1 := 21) (al1 := [(6, .ref (241 + kg)), (5, .int (nI (i))), (0, .ref 124), (1, .int (nI (gTb G))), (2, .int (nI (gTi G))), (3, .int (nI (gEv G))), (4, .int (nI (D)))]) rfl rfl ?_
            refine w_p (pc1 := 23) rfl rfl ?_
            refine w_f (a := 63) (b := 26) rfl rfl rfl ?_
            refine w_p (pc1 := 28) rfl rfl ?_
            refine w_p (pc1 := 29) rfl rfl ?_
            refine w_p (pc1 := 30) rfl rfl ?_
            refine w_p (pc1 := 31) rfl rfl ?_
            refine w_je (pc1 := 34) (vs := [.ref (241 + kg), .int (nI (gTb G)), .int (nI (gTi G)), .int (nI (gEv G))]) (rest := []) (st1 := [.int 1]) (hfor) rfl rfl rfl (fun _ _ => rfl) rfl (by exact cl_v my_124 rfl rfl rfl (Nat.le_of_ble_eq_true rfl) rfl (x_obj hT) rfl (by decide) rfl rfl) (by rfl) (Nat.le_of_ble_eq_true rfl) (Nat.le_of_ble_eq_true rfl) rfl (by rfl) ?_
            refine w_f (a := 63) (b := 37) rfl rfl rfl ?_
            refine w_p (pc1 := 38) rfl rfl ?_
            refine w_p (pc1 := 40) rfl rfl ?_
            refine w_m0 (pc1 := 43) (st1 := .null :: _) rfl rfl (x_gf (k := kg) rfl hT rfl) rfl ?_
            refine w_p (pc1 := 44) (st1 := .int 0 :: _) rfl rfl ?_
            refine w_p (pc1 := 46) rfl rfl ?_
            refine w_ji (pc1 := 49) (vs := [.ref 124, .null, .int 0, .int (nI (D))]) (rest := []) (hts) rfl rfl rfl (fun _ _ => rfl) rfl (by exact cl_v my_125 rfl rfl rfl (Nat.le_of_ble_eq_true rfl) rfl (MH_obj rfl rfl) rfl (by decide) rfl rfl) (by rfl) (Nat.le_of_ble_eq_true rfl) (Nat.le_of_ble_eq_true rfl) rfl (fun v h1 d1 hq => ?_) (fun a h1 d1 hq => ?_)
            · obtain ⟨y, hy, _⟩ := hq
              cases hy
            · rcases hq with ⟨_, t1, hs1, ha, hh, hn⟩
              · subst ha; subst hh; subst hn
                refine Or.inl ⟨ch_new (by decide) rfl, ?_⟩
                exact ⟨byZ, sI C 24 6 4, t1, ⟨rfl, KX_s B.2.1.2.2, spK_z, frE_t hf frE_s, stk_t hst hs1⟩, rfl, rfl, rfl⟩
          | some y =>
            rw [hx] at hts
            cases y with
            | false =>
              have e1 : fir1 S (stp S n) (gTb G) (gTi G) (gEv G) O i (N, σ) = ((N, σ), none) := by rw [e0, hG]; show (if _ then _ else _) = _; rw [if_pos hm, hx]
              rw [lop_n e1]
              refine w_p (pc1 := 5) rfl rfl ?_
              refine w_p (pc1 := 7) (st1 := .int 8 :: _) rfl rfl ?_
              refine w_f (a := 69) (b := 10) (bN_ge_f (a := i) (b := 8) (by omega) (by omega) (by omega)) rfl rfl ?_
              refine w_p (pc1 := 11) rfl rfl ?_
              refine w_m0 (pc1 := 14) rfl rfl (h_gC rfl rfl rfl rfl) rfl ?_
              refine w_p (pc1 := 16) rfl rfl ?_
              refine w_je (pc1 := 19) (vs := [.ref 106, .int (nI (i))]) (rest := []) (st1 := [.ref (241 + kg)]) (m_123_s (d := 4 * n + 14) (sl := 0) (by omega) hkg) rfl rfl rfl (fun _ _ => rfl) rfl (by exact cl_v my_123 rfl rfl rfl (Nat.le_of_ble_eq_true rfl) rfl (MH_obj rfl rfl) rfl (by decide) rfl rfl) (by rfl) (Nat.le_of_ble_eq_true rfl) (Nat.le_of_ble_eq_true rfl) rfl (by rfl) ?_
              refine w_p (pc1 := 21) (al1 := [(6, .ref (241 + kg)), (5, .int (nI (i))), (0, .ref 124), (1, .int (nI (gTb G))), (2, .int (nI (gTi G))), (3, .int (nI (gEv G))), (4, .int (nI (D)))]) rfl rfl ?_
              refine w_p (pc1 := 23) rfl rfl ?_
              refine w_f (a := 63) (b := 26) rfl rfl rfl ?_
              refine w_p (pc1 := 28) rfl rfl ?_
              refine w_p (pc1 := 29) rfl rfl ?_
              refine w_p (pc1 := 30) rfl rfl ?_
              refine w_p (pc1 := 31) rfl rfl ?_
              refine w_je (pc1 := 34) (vs := [.ref (241 + kg), .int (nI (gTb G)), .int (nI (gTi G)), .int (nI (gEv G))]) (rest := []) (st1 := [.int 1]) (hfor) rfl rfl rfl (fun _ _ => rfl) rfl (by exact cl_v my_124 rfl rfl rfl (Nat.le_of_ble_eq_true rfl) rfl (x_obj hT) rfl (by decide) rfl rfl) (by rfl) (Nat.le_of_ble_eq_true rfl) (Nat.le_of_ble_eq_true rfl) rfl (by rfl) ?_
              refine w_f (a := 63) (b := 37) rfl rfl rfl ?_
              refine w_p (pc1 := 38) rfl rfl ?_
              refine w_p (pc1 := 40) rfl rfl ?_
              refine w_m0 (pc1 := 43) (st1 := .null :: _) rfl rfl (x_gf (k := kg) rfl hT rfl) rfl ?_
              refine w_p (pc1 := 44) (st1 := .int 0 :: _) rfl rfl ?_
              refine w_p (pc1 := 46) rfl rfl ?_
              refine w_ji (pc1 := 49) (vs := [.ref 124, .null, .int 0, .int (nI (D))]) (rest := []) (hts) rfl rfl rfl (fun _ _ => rfl) rfl (by exact cl_v my_125 rfl rfl rfl (Nat.le_of_ble_eq_true rfl) rfl (MH_obj rfl rfl) rfl (by decide) rfl rfl) (by rfl) (Nat.le_of_ble_eq_true rfl) (Nat.le_of_ble_eq_true rfl) rfl (fun v h1 d1 hq => ?_) (fun a h1 d1 hq => ?_)
              · obtain ⟨y, hy, hv, ⟨t1, hs1, hh⟩, hn⟩ := hq
                cases hy
                subst hv; subst hh; subst hn
                refine w_t (a := 63) (b := 52) rfl rfl rfl ?_
                refine w_iinc (pc1 := 66) (u := nI (i)) (z := nI (i + 1)) (al1 := [(5, .int (nI (i + 1))), (6, .ref (241 + kg)), (0, .ref 124), (1, .int (nI (gTb G))), (2, .int (nI (gTi G))), (3, .int (nI (gEv G))), (4, .int (nI (D)))]) rfl rfl rfl nK_1 rfl rfl ?_
                refine w_p (pc1 := 3) rfl rfl ?_
                refine Wd_al (al := [(5, .int (nI (i + 1))), (0, .ref 124), (1, .int (nI (gTb G))), (2, .int (nI (gTi G))), (3, .int (nI (gEv G))), (4, .int (nI (D)))]) (sba_p [0, 2, 3, 4, 5, 6] rfl rfl) ?_
                exact ih C t1 N σ (KB_n B (by omega) frE_r hs1 B.2.1) hf (stk_t hst hs1)
              · rcases hq with ⟨hy, _⟩
                · cases hy
            | true =>
              have e1 : fir1 S (stp S n) (gTb G) (gTi G) (gEv G) O i (N, σ) = act1 S (stp S n) O (gAc G) (N, σ) := by rw [e0, hG]; show (if _ then _ else _) = _; rw [if_pos hm, hx]
              have B1 := fun t1 (hs1 : stk t t1) => KB_n B (by omega) frE_r hs1 B.2.1
              have hac1 := fun t1 (hs1 : stk t t1) => ACK_k hs1 hac
              by_cases hk3 : aKd (gAc G) < 3
              · have e2 : act1 S (stp S n) O (gAc G) (N, σ) = ((N, (chg S (stp S n) (gAc G) N O σ).1), (chg S (stp S n) (gAc G) N O σ).2) := by unfold act1; rw [if_neg (by omega), if_neg (by omega)]
                refine w_p (pc1 := 5) rfl rfl ?_
                refine w_p (pc1 := 7) (st1 := .int 8 :: _) rfl rfl ?_
                refine w_f (a := 69) (b := 10) (bN_ge_f (a := i) (b := 8) (by omega) (by omega) (by omega)) rfl rfl ?_
                refine w_p (pc1 := 11) rfl rfl ?_
                refine w_m0 (pc1 := 14) rfl rfl (h_gC rfl rfl rfl rfl) rfl ?_
                refine w_p (pc1 := 16) rfl rfl ?_
                refine w_je (pc1 := 19) (vs := [.ref 106, .int (nI (i))]) (rest := []) (st1 := [.ref (241 + kg)]) (m_123_s (d := 4 * n + 14) (sl := 0) (by omega) hkg) rfl rfl rfl (fun _ _ => rfl) rfl (by exact cl_v my_123 rfl rfl rfl (Nat.le_of_ble_eq_true rfl) rfl (MH_obj rfl rfl) rfl (by decide) rfl rfl) (by rfl) (Nat.le_of_ble_eq_true rfl) (Nat.le_of_ble_eq_true rfl) rfl (by rfl) ?_
                refine w_p (pc1 := 21) (al1 := [(6, .ref (241 + kg)), (5, .int (nI (i))), (0, .ref 124), (1, .int (nI (gTb G))), (2, .int (nI (gTi G))), (3, .int (nI (gEv G))), (4, .int (nI (D)))]) rfl rfl ?_
                refine w_p (pc1 := 23) rfl rfl ?_
                refine w_f (a := 63) (b := 26) rfl rfl rfl ?_
                refine w_p (pc1 := 28) rfl rfl ?_
                refine w_p (pc1 := 29) rfl rfl ?_
                refine w_p (pc1 := 30) rfl rfl ?_
                refine w_p (pc1 := 31) rfl rfl ?_
                refine w_je (pc1 := 34) (vs := [.ref (241 + kg), .int (nI (gTb G)), .int (nI (gTi G)), .int (nI (gEv G))]) (rest := []) (st1 := [.int 1]) (hfor) rfl rfl rfl (fun _ _ => rfl) rfl (by exact cl_v my_124 rfl rfl rfl (Nat.le_of_ble_eq_true rfl) rfl (x_obj hT) rfl (by decide) rfl rfl) (by rfl) (Nat.le_of_ble_eq_true rfl) (Nat.le_of_ble_eq_true rfl) rfl (by rfl) ?_
                refine w_f (a := 63) (b := 37) rfl rfl rfl ?_
                refine w_p (pc1 := 38) rfl rfl ?_
                refine w_p (pc1 := 40) rfl rfl ?_
                refine w_m0 (pc1 := 43) (st1 := .null :: _) rfl rfl (x_gf (k := kg) rfl hT rfl) rfl ?_
                refine w_p (pc1 := 44) (st1 := .int 0 :: _) rfl rfl ?_
                refine w_p (pc1 := 46) rfl rfl ?_
                refine w_ji (pc1 := 49) (vs := [.ref 124, .null, .int 0, .int (nI (D))]) (rest := []) (hts) rfl rfl rfl (fun _ _ => rfl) rfl (by exact cl_v my_125 rfl rfl rfl (Nat.le_of_ble_eq_true rfl) rfl (MH_obj rfl rfl) rfl (by decide) rfl rfl) (by rfl) (Nat.le_of_ble_eq_true rfl) (Nat.le_of_ble_eq_true rfl) rfl (fun v h1 d1 hq => ?_) (fun a h1 d1 hq => ?_)
                · obtain ⟨y, hy, hv, ⟨t1, hs1, hh⟩, hn⟩ := hq
                  cases hy
                  subst hv; subst hh; subst hn
                  have hT1 := stk_o hs1 hT
                  have hcall := m_109 (sl := 0) ho hS hD (B1 t1 hs1) (hac1 t1 hs1) o5 hk3
                  refine w_f (a := 63) (b := 52) rfl rfl rfl ?_
                  refine w_p (pc1 := 53) rfl rfl ?_
                  refine w_p (pc1 := 55) rfl rfl ?_
                  refine w_m0 (pc1 := 58) (st1 := .ref (241 + ka) :: _) rfl rfl (x_gf (k := kg) rfl hT1 rfl) rfl ?_
                  refine w_p (pc1 := 60) rfl rfl ?_
                  refine w_ji (pc1 := 63) (vs := [.ref 124, .ref (241 + ka), .int (nI (D))]) (rest := []) (hcall) rfl rfl rfl (fun _ _ => rfl) rfl (by exact cl_v my_109 rfl rfl rfl (Nat.le_of_ble_eq_true rfl) rfl (MH_obj rfl rfl) rfl (by decide) rfl rfl) (by rfl) (Nat.le_of_ble_eq_true rfl) (Nat.le_of_ble_eq_true rfl) rfl (fun v h1 d1 hq => ?_) (fun a h1 d1 hq => ?_)
                  · obtain ⟨z1, hv, ⟨C9, t9, ⟨z2, z3, z4⟩, hh⟩, hn⟩ := hq
                    subst hv; subst hh; subst hn
                    have f9 : frE D D C C9 := frE_u z3 (by omega) (by omega)
                    refine w_iinc (pc1 := 66) (u := nI (i)) (z := nI (i + 1)) (al1 := [(5, .int (nI (i + 1))), (6, .ref (241 + kg)), (0, .ref 124), (1, .int (nI (gTb G))), (2, .int (nI (gTi G))), (3, .int (nI (gEv G))), (4, .int (nI (D)))]) rfl rfl rfl nK_1 rfl rfl ?_
                    refine w_p (pc1 := 3) rfl rfl ?_
                    refine Wd_al (al := [(5, .int (nI (i + 1))), (0, .ref 124), (1, .int (nI (gTb G))), (2, .int (nI (gTi G))), (3, .int (nI (gEv G))), (4, .int (nI (D)))]) (sba_p [0, 2, 3, 4, 5, 6] rfl rfl) ?_
                    rw [lop_n (show fir1 S (stp S n) (gTb G) (gTi G) (gEv G) O i (N, σ) = ((N, (chg S (stp S n) (gAc G) N O σ).1), none) by rw [e1, e2, ← z1])]
                    exact ih C9 t9 N _ ⟨KS_k (B1 t1 hs1).1 f9 z4, z2, B.2.2.1, bfK_E z3 (by omega) B.2.2.2.1, bfK_E z3 (by omega) B.2.2.2.2⟩ (frE_t hf f9) (stk_t hst (stk_t hs1 z4))
                  · rcases hq with ⟨e9, C9, t9, ⟨z1, z2, z3, z4, z5⟩, ha, hh, hn⟩
                    · subst ha; subst hh; subst hn
                      refine Or.inl ⟨ch_new (by decide) rfl, ?_⟩
                      rw [lop_s (show fir1 S (stp S n) (gTb G) (gTi G) (gEv G) O i (N, σ) = ((N, (chg S (stp S n) (gAc G) N O σ).1), some e9) by rw [e1, e2, ← z1])]
                      exact ⟨e9, C9, t9, ⟨rfl, z2, z3, frE_t hf (frE_u z4 (by omega) (by omega)), stk_t hst (stk_t hs1 z5)⟩, rfl, rfl, rfl⟩
                · rcases hq with ⟨hy, _⟩
                  · cases hy
              · rcases o5 with ⟨h1, _⟩ | ⟨h1, _⟩ | ⟨h1, _⟩ | ⟨h1, h2, c, l, h3, h4, h5, h6⟩ | ⟨h1, h2⟩
                · omega
                · omega
                · omega
                · have hc6 : c < 6 := by have := ho.1 _ htb; omega
                  have e2 : act1 S (stp S n) O (gAc G) (N, σ) = match smv noF N O (some l) with | none => ((N, σ), some byZ) | some v => ((upF N c v, σ), none) := by unfold act1; rw [if_neg (by omega), if_pos h1, h4, h3]; rfl
                  refine w_p (pc1 := 5) rfl rfl ?_
                  refine w_p (pc1 := 7) (st1 := .int 8 :: _) rfl rfl ?_
                  refine w_f (a := 69) (b := 10) (bN_ge_f (a := i) (b := 8) (by omega) (by omega) (by omega)) rfl rfl ?_
                  refine w_p (pc1 := 11) rfl rfl ?_
                  refine w_m0 (pc1 := 14) rfl rfl (h_gC rfl rfl rfl rfl) rfl ?_
                  refine w_p (pc1 := 16) rfl rfl ?_
                  refine w_je (pc1 := 19) (vs := [.ref 106, .int (nI (i))]) (rest := []) (st1 := [.ref (241 + kg)]) (m_123_s (d := 4 * n + 14) (sl := 0) (by omega) hkg) rfl rfl rfl (fun _ _ => rfl) rfl (by exact cl_v my_123 rfl rfl rfl (Nat.le_of_ble_eq_true rfl) rfl (MH_obj rfl rfl) rfl (by decide) rfl rfl) (by rfl) (Nat.le_of_ble_eq_true rfl) (Nat.le_of_ble_eq_true rfl) rfl (by rfl) ?_
                  refine w_p (pc1 := 21) (al1 := [(6, .ref (241 + kg)), (5, .int (nI (i))), (0, .ref 124), (1, .int (nI (gTb G))), (2, .int (nI (gTi G))), (3, .int (nI (gEv G))), (4, .int (nI (D)))]) rfl rfl ?_
                  refine w_p (pc1 := 23) rfl rfl ?_
                  refine w_f (a := 63) (b := 26) rfl rfl rfl ?_
                  refine w_p (pc1 := 28) rfl rfl ?_
                  refine w_p (pc1 := 29) rfl rfl ?_
                  refine w_p (pc1 := 30) rfl rfl ?_
                  refine w_p (pc1 := 31) rfl rfl ?_
                  refine w_je (pc1 := 34) (vs := [.ref (241 + kg), .int (nI (gTb G)), .int (nI (gTi G)), .int (nI (gEv G))]) (rest := []) (st1 := [.int 1]) (hfor) rfl rfl rfl (fun _ _ => rfl) rfl (by exact cl_v my_124 rfl rfl rfl (Nat.le_of_ble_eq_true rfl) rfl (x_obj hT) rfl (by decide) rfl rfl) (by rfl) (Nat.le_of_ble_eq_true rfl) (Nat.le_of_ble_eq_true rfl) rfl (by rfl) ?_
                  refine w_f (a := 63) (b := 37) rfl rfl rfl ?_
                  refine w_p (pc1 := 38) rfl rfl ?_
                  refine w_p (pc1 := 40) rfl rfl ?_
                  refine w_m0 (pc1 := 43) (st1 := .null :: _) rfl rfl (x_gf (k := kg) rfl hT rfl) rfl ?_
                  refine w_p (pc1 := 44) (st1 := .int 0 :: _) rfl rfl ?_
                  refine w_p (pc1 := 46) rfl rfl ?_
                  refine w_ji (pc1 := 49) (vs := [.ref 124, .null, .int 0, .int (nI (D))]) (rest := []) (hts) rfl rfl rfl (fun _ _ => rfl) rfl (by exact cl_v my_125 rfl rfl rfl (Nat.le_of_ble_eq_true rfl) rfl (MH_obj rfl rfl) rfl (by decide) rfl rfl) (by rfl) (Nat.le_of_ble_eq_true rfl) (Nat.le_of_ble_eq_true rfl) rfl (fun v h1 d1 hq => ?_) (fun a h1 d1 hq => ?_)
                  · obtain ⟨y, hy, hv, ⟨t1, hs1, hh⟩, hn⟩ := hq
                    cases hy
                    subst hv; subst hh; subst hn
                    have hT1 := stk_o hs1 hT
                    have hcall := m_109_3 (L := L) (xs := xs) (d := 4 * n + 5) (sl := 0) ho hD (B1 t1 hs1) (hac1 t1 hs1) h1 h2 h3 h4 hc6 h6
                    refine w_f (a := 63) (b := 52) rfl rfl rfl ?_
                    refine w_p (pc1 := 53) rfl rfl ?_
                    refine w_p (pc1 := 55) rfl rfl ?_
                    refine w_m0 (pc1 := 58) (st1 := .ref (241 + ka) :: _) rfl rfl (x_gf (k := kg) rfl hT1 rfl) rfl ?_
                    refine w_p (pc1 := 60) rfl rfl ?_
                    refine w_ji (pc1 := 63) (vs := [.ref 124, .ref (241 + ka), .int (nI (D))]) (rest := []) (hcall) rfl rfl rfl (fun _ _ => rfl) rfl (by exact cl_v my_109 rfl rfl rfl (Nat.le_of_ble_eq_true rfl) rfl (MH_obj rfl rfl) rfl (by decide) rfl rfl) (by rfl) (Nat.le_of_ble_eq_true rfl) (Nat.le_of_ble_eq_true rfl) rfl (fun v h1 d1 hq => ?_) (fun a h1 d1 hq => ?_)
                    · obtain ⟨hv, ⟨x9, C9, t9, ⟨z1, z2, z3, z4⟩, hh⟩, hn⟩ := hq
                      subst hv; subst hh; subst hn
                      have f9 : frE D D C C9 := frB_E z3 (by omega)
                      refine w_iinc (pc1 := 66) (u := nI (i)) (z := nI (i + 1)) (al1 := [(5, .int (nI (i + 1))), (6, .ref (241 + kg)), (0, .ref 124), (1, .int (nI (gTb G))), (2, .int (nI (gTi G))), (3, .int (nI (gEv G))), (4, .int (nI (D)))]) rfl rfl rfl nK_1 rfl rfl ?_
                      refine w_p (pc1 := 3) rfl rfl ?_
                      refine Wd_al (al := [(5, .int (nI (i + 1))), (0, .ref 124), (1, .int (nI (gTb G))), (2, .int (nI (gTi G))), (3, .int (nI (gEv G))), (4, .int (nI (D)))]) (sba_p [0, 2, 3, 4, 5, 6] rfl rfl) ?_
                      rw [lop_n (show fir1 S (stp S n) (gTb G) (gTi G) (gEv G) O i (N, σ) = ((upF N c x9, σ), none) by rw [e1, e2, z1])]
                      exact ih C9 t9 (upF N c x9) σ ⟨KS_k (B1 t1 hs1).1 f9 z4, KE_B z3 (by omega) B.2.1, B.2.2.1, z2, bfK_B z3 (by omega) B.2.2.2.2⟩ (frE_t hf f9) (stk_t hst (stk_t hs1 z4))
                    · rcases hq with ⟨t9, ⟨z1, z2⟩, ha, hh, hn⟩
                      · subst ha; subst hh; subst hn
                        refine Or.inl ⟨ch_new (by decide) rfl, ?_⟩
                        rw [lop_s (show fir1 S (stp S n) (gTb G) (gTi G) (gEv G) O i (N, σ) = ((N, σ), some byZ) by rw [e1, e2, z1])]
                        exact ⟨byZ, sI C 24 6 4, t9, ⟨rfl, KX_s B.2.1.2.2, spK_z, frE_t hf frE_s, stk_t hst (stk_t hs1 z2)⟩, rfl, rfl, rfl⟩
                  · rcases hq with ⟨hy, _⟩
                    · cases hy
                · have e2 : act1 S (stp S n) O (gAc G) (N, σ) = ((N, σ), some (3, aNo (gAc G), 0)) := by unfold act1; rw [if_pos h1]
                  rw [lop_s (show fir1 S (stp S n) (gTb G) (gTi G) (gEv G) O i (N, σ) = ((N, σ), some (3, aNo (gAc G), 0)) by rw [e1, e2])]
                  refine w_p (pc1 := 5) rfl rfl ?_
                  refine w_p (pc1 := 7) (st1 := .int 8 :: _) rfl rfl ?_
                  refine w_f (a := 69) (b := 10) (bN_ge_f (a := i) (b := 8) (by omega) (by omega) (by omega)) rfl rfl ?_
                  refine w_p (pc1 := 11) rfl rfl ?_
                  refine w_m0 (pc1 := 14) rfl rfl (h_gC rfl rfl rfl rfl) rfl ?_
                  refine w_p (pc1 := 16) rfl rfl ?_
                  refine w_je (pc1 := 19) (vs := [.ref 106, .int (nI (i))]) (rest := []) (st1 := [.ref (241 + kg)]) (m_123_s (d := 4 * n + 14) (sl := 0) (by omega) hkg) rfl rfl rfl (fun _ _ => rfl) rfl (by exact cl_v my_123 rfl rfl rfl (Nat.le_of_ble_eq_true rfl) rfl (MH_obj rfl rfl) rfl (by decide) rfl rfl) (by rfl) (Nat.le_of_ble_eq_true rfl) (Nat.le_of_ble_eq_true rfl) rfl (by rfl) ?_
                  refine w_p (pc1 := 21) (al1 := [(6, .ref (241 + kg)), (5, .int (nI (i))), (0, .ref 124), (1, .int (nI (gTb G))), (2, .int (nI (gTi G))), (3, .int (nI (gEv G))), (4, .int (nI (D)))]) rfl rfl ?_
                  refine w_p (pc1 := 23) rfl rfl ?_
                  refine w_f (a := 63) (b := 26) rfl rfl rfl ?_
                  refine w_p (pc1 := 28) rfl rfl ?_
                  refine w_p (pc1 := 29) rfl rfl ?_
                  refine w_p (pc1 := 30) rfl rfl ?_
                  refine w_p (pc1 := 31) rfl rfl ?_
                  refine w_je (pc1 := 34) (vs := [.ref (241 + kg), .int (nI (gTb G)), .int (nI (gTi G)), .int (nI (gEv G))]) (rest := []) (st1 := [.int 1]) (hfor) rfl rfl rfl (fun _ _ => rfl) rfl (by exact cl_v my_124 rfl rfl rfl (Nat.le_of_ble_eq_true rfl) rfl (x_obj hT) rfl (by decide) rfl rfl) (by rfl) (Nat.le_of_ble_eq_true rfl) (Nat.le_of_ble_eq_true rfl) rfl (by rfl) ?_
                  refine w_f (a := 63) (b := 37) rfl rfl rfl ?_
                  refine w_p (pc1 := 38) rfl rfl ?_
                  refine w_p (pc1 := 40) rfl rfl ?_
                  refine w_m0 (pc1 := 43) (st1 := .null :: _) rfl rfl (x_gf (k := kg) rfl hT rfl) rfl ?_
                  refine w_p (pc1 := 44) (st1 := .int 0 :: _) rfl rfl ?_
                  refine w_p (pc1 := 46) rfl rfl ?_
                  refine w_ji (pc1 := 49) (vs := [.ref 124, .null, .int 0, .int (nI (D))]) (rest := []) (hts) rfl rfl rfl (fun _ _ => rfl) rfl (by exact cl_v my_125 rfl rfl rfl (Nat.le_of_ble_eq_true rfl) rfl (MH_obj rfl rfl) rfl (by decide) rfl rfl) (by rfl) (Nat.le_of_ble_eq_true rfl) (Nat.le_of_ble_eq_true rfl) rfl (fun v h1 d1 hq => ?_) (fun a h1 d1 hq => ?_)
                  · obtain ⟨y, hy, hv, ⟨t1, hs1, hh⟩, hn⟩ := hq
                    cases hy
                    subst hv; subst hh; subst hn
                    have hT1 := stk_o hs1 hT
                    have hcall := m_109_4 (L := L) (xs := xs) (C := C) (d := 4 * n + 7) (sl := 0) hD (hac1 t1 hs1) h1 h2
                    refine w_f (a := 63) (b := 52) rfl rfl rfl ?_
                    refine w_p (pc1 := 53) rfl rfl ?_
                    refine w_p (pc1 := 55) rfl rfl ?_
                    refine w_m0 (pc1 := 58) (st1 := .ref (241 + ka) :: _) rfl rfl (x_gf (k := kg) rfl hT1 rfl) rfl ?_
                    refine w_p (pc1 := 60) rfl rfl ?_
                    refine w_ji (pc1 := 63) (vs := [.ref 124, .ref (241 + ka), .int (nI (D))]) (rest := []) (hcall) rfl rfl rfl (fun _ _ => rfl) rfl (by exact cl_v my_109 rfl rfl rfl (Nat.le_of_ble_eq_true rfl) rfl (MH_obj rfl rfl) rfl (by decide) rfl rfl) (by rfl) (Nat.le_of_ble_eq_true rfl) (Nat.le_of_ble_eq_true rfl) rfl (fun v h1 d1 hq => ?_) (fun a h1 d1 hq => ?_)
                    · exact hq.elim
                    · rcases hq with ⟨ha, hh, hn⟩
                      · subst ha; subst hh; subst hn
                        refine Or.inl ⟨ch_new (by decide) rfl, ?_⟩
                        exact ⟨(3, aNo (gAc G), 0), sI (sI C 24 11 (aNo (gAc G))) 24 6 3, t1, ⟨rfl, B.2.1.2.2, ⟨rfl, fun h => absurd (show (3 : Nat) = 2 from h) (by decide), fun _ => rfl⟩, frE_t hf (frE_t (frE_j (by decide)) frE_s), stk_t hst hs1⟩, rfl, rfl, rfl⟩
                  · rcases hq with ⟨hy, _⟩
                    · cases hy
        · cases hx : tst noF N O (gWh G) with
          | none =>
            rw [hx] at hts
            have e1 : fir1 S (stp S n) (gTb G) (gTi G) (gEv G) O i (N, σ) = ((N, σ), some byZ) := by rw [e0, hG]; show (if _ then _ else _) = _; rw [if_pos hm, hx]
            rw [lop_s e1]
            refine w_p (pc1 := 5) rfl rfl ?_
            refine w_p (pc1 := 7) (st1 := .int 8 :: _) rfl rfl ?_
            refine w_f (a := 69) (b := 10) (bN_ge_f (a := i) (b := 8) (by omega) (by omega) (by omega)) rfl rfl ?_
            refine w_p (pc1 := 11) rfl rfl ?_
            refine w_m0 (pc1 := 14) rfl rfl (h_gC rfl rfl rfl rfl) rfl ?_
            refine w_p (pc1 := 16) rfl rfl ?_
            refine w_je (pc1 := 19) (vs := [.ref 106, .int (nI (i))]) (rest := []) (st1 := [.ref (241 + kg)]) (m_123_s (d := 4 * n + 14) (sl := 0) (by omega) hkg) rfl rfl rfl (fun _ _ => rfl) rfl (by exact cl_v my_123 rfl rfl rfl (Nat.le_of_ble_eq_true rfl) rfl (MH_obj rfl rfl) rfl (by decide) rfl rfl) (by rfl) (Nat.le_of_ble_eq_true rfl) (Nat.le_of_ble_eq_true rfl) rfl (by rfl) ?_
            refine w_p (pc1 := 21) (al1 := [(6, .ref (241 + kg)), (5, .int (nI (i))), (0, .ref 124), (1, .int (nI (gTb G))), (2, .int (nI (gTi G))), (3, .int (nI (gEv G))), (4, .int (nI (D)))]) rfl rfl ?_
            refine w_p (pc1 := 23) rfl rfl ?_
            refine w_f (a := 63) (b := 26) rfl rfl rfl ?_
            refine w_p (pc1 := 28) rfl rfl ?_
            refine w_p (pc1 := 29) rfl rfl ?_
            refine w_p (pc1 := 30) rfl rfl ?_
            refine w_p (pc1 := 31) rfl rfl ?_
            refine w_je (pc1 := 34) (vs := [.ref (241 + kg), .int (nI (gTb G)), .int (nI (gTi G)), .int (nI (gEv G))]) (rest := []) (st1 := [.int 1]) (hfor) rfl rfl rfl (fun _ _ => rfl) rfl (by exact cl_v my_124 rfl rfl rfl (Nat.le_of_ble_eq_true rfl) rfl (x_obj hT) rfl (by decide) rfl rfl) (by rfl) (Nat.le_of_ble_eq_true rfl) (Nat.le_of_ble_eq_true rfl) rfl (by rfl) ?_
            refine w_f (a := 63) (b := 37) rfl rfl rfl ?_
            refine w_p (pc1 := 38) rfl rfl ?_
            refine w_p (pc1 := 40) rfl rfl ?_
            refine w_m0 (pc1 := 43) (st1 := .ref (241 + kk) :: _) rfl rfl (x_gf (k := kg) rfl hT rfl) rfl ?_
            refine w_p (pc1 := 44) (st1 := .int 0 :: _) rfl rfl ?_
            refine w_p (pc1 := 46) rfl rfl ?_
            refine w_ji (pc1 := 49) (vs := [.ref 124, .ref (241 + kk), .int 0, .int (nI (D))]) (rest := []) (hts) rfl rfl rfl (fun _ _ => rfl) rfl (by exact cl_v my_125 rfl rfl rfl (Nat.le_of_ble_eq_true rfl) rfl (MH_obj rfl rfl) rfl (by decide) rfl rfl) (by rfl) (Nat.le_of_ble_eq_true rfl) (Nat.le_of_ble_eq_true rfl) rfl (fun v h1 d1 hq => ?_) (fun a h1 d1 hq => ?_)
            · obtain ⟨y, hy, _⟩ := hq
              cases hy
            · rcases hq with ⟨_, t1, hs1, ha, hh, hn⟩
              · subst ha; subst hh; subst hn
                refine Or.inl ⟨ch_new (by decide) rfl, ?_⟩
                exact ⟨byZ, sI C 24 6 4, t1, ⟨rfl, KX_s B.2.1.2.2, spK_z, frE_t hf frE_s, stk_t hst hs1⟩, rfl, rfl, rfl⟩
          | some y =>
            rw [hx] at hts
            cases y with
            | false =>
              have e1 : fir1 S (stp S n) (gTb G) (gTi G) (gEv G) O i (N, σ) = ((N, σ), none) := by rw [e0, hG]; show (if _ then _ else _) = _; rw [if_pos hm, hx]
              rw [lop_n e1]
              refine w_p (pc1 := 5) rfl rfl ?_
              refine w_p (pc1 := 7) (st1 := .int 8 :: _) rfl rfl ?_
              refine w_f (a := 69) (b := 10) (bN_ge_f (a := i) (b := 8) (by omega) (by omega) (by omega)) rfl rfl ?_
              refine w_p (pc1 := 11) rfl rfl ?_
              refine w_m0 (pc1 := 14) rfl rfl (h_gC rfl rfl rfl rfl) rfl ?_
              refine w_p (pc1 := 16) rfl rfl ?_
              refine w_je (pc1 := 19) (vs := [.ref 106, .int (nI (i))]) (rest := []) (st1 := [.ref (241 + kg)]) (m_123_s (d := 4 * n + 14) (sl := 0) (by omega) hkg) rfl rfl rfl (fun _ _ => rfl) rfl (by exact cl_v my_123 rfl rfl rfl (Nat.le_of_ble_eq_true rfl) rfl (MH_obj rfl rfl) rfl (by decide) rfl rfl) (by rfl) (Nat.le_of_ble_eq_true rfl) (Nat.le_of_ble_eq_true rfl) rfl (by rfl) ?_
              refine w_p (pc1 := 21) (al1 := [(6, .ref (241 + kg)), (5, .int (nI (i))), (0, .ref 124), (1, .int (nI (gTb G))), (2, .int (nI (gTi G))), (3, .int (nI (gEv G))), (4, .int (nI (D)))]) rfl rfl ?_
              refine w_p (pc1 := 23) rfl rfl ?_
              refine w_f (a := 63) (b := 26) rfl rfl rfl ?_
              refine w_p (pc1 := 28) rfl rfl ?_
              refine w_p (pc1 := 29) rfl rfl ?_
              refine w_p (pc1 := 30) rfl rfl ?_
              refine w_p (pc1 := 31) rfl rfl ?_
              refine w_je (pc1 := 34) (vs := [.ref (241 + kg), .int (nI (gTb G)), .int (nI (gTi G)), .int (nI (gEv G))]) (rest := []) (st1 := [.int 1]) (hfor) rfl rfl rfl (fun _ _ => rfl) rfl (by exact cl_v my_124 rfl rfl rfl (Nat.le_of_ble_eq_true rfl) rfl (x_obj hT) rfl (by decide) rfl rfl) (by rfl) (Nat.le_of_ble_eq_true rfl) (Nat.le_of_ble_eq_true rfl) rfl (by rfl) ?_
              refine w_f (a := 63) (b := 37) rfl rfl rfl ?_
              refine w_p (pc1 := 38) rfl rfl ?_
              refine w_p (pc1 := 40) rfl rfl ?_
              refine w_m0 (pc1 := 43) (st1 := .ref (241 + kk) :: _) rfl rfl (x_gf (k := kg) rfl hT rfl) rfl ?_
              refine w_p (pc1 := 44) (st1 := .int 0 :: _) rfl rfl ?_
              refine w_p (pc1 := 46) rfl rfl ?_
              refine w_ji (pc1 := 49) (vs := [.ref 124, .ref (241 + kk), .int 0, .int (nI (D))]) (rest := []) (hts) rfl rfl rfl (fun _ _ => rfl) rfl (by exact cl_v my_125 rfl rfl rfl (Nat.le_of_ble_eq_true rfl) rfl (MH_obj rfl rfl) rfl (by decide) rfl rfl) (by rfl) (Nat.le_of_ble_eq_true rfl) (Nat.le_of_ble_eq_true rfl) rfl (fun v h1 d1 hq => ?_) (fun a h1 d1 hq => ?_)
              · obtain ⟨y, hy, hv, ⟨t1, hs1, hh⟩, hn⟩ := hq
                cases hy
                subst hv; subst hh; subst hn
                refine w_t (a := 63) (b := 52) rfl rfl rfl ?_
                refine w_iinc (pc1 := 66) (u := nI (i)) (z := nI (i + 1)) (al1 := [(5, .int (nI (i + 1))), (6, .ref (241 + kg)), (0, .ref 124), (1, .int (nI (gTb G))), (2, .int (nI (gTi G))), (3, .int (nI (gEv G))), (4, .int (nI (D)))]) rfl rfl rfl nK_1 rfl rfl ?_
                refine w_p (pc1 := 3) rfl rfl ?_
                refine Wd_al (al := [(5, .int (nI (i + 1))), (0, .ref 124), (1, .int (nI (gTb G))), (2, .int (nI (gTi G))), (3, .int (nI (gEv G))), (4, .int (nI (D)))]) (sba_p [0, 2, 3, 4, 5, 6] rfl rfl) ?_
                exact ih C t1 N σ (KB_n B (by omega) frE_r hs1 B.2.1) hf (stk_t hst hs1)
              · rcases hq with ⟨hy, _⟩
                · cases hy
            | true =>
              have e1 : fir1 S (stp S n) (gTb G) (gTi G) (gEv G) O i (N, σ) = act1 S (stp S n) O (gAc G) (N, σ) := by rw [e0, hG]; show (if _ then _ else _) = _; rw [if_pos hm, hx]
              have B1 := fun t1 (hs1 : stk t t1) => KB_n B (by omega) frE_r hs1 B.2.1
              have hac1 := fun t1 (hs1 : stk t t1) => ACK_k hs1 hac
              by_cases hk3 : aKd (gAc G) < 3
              · have e2 : act1 S (stp S n) O (gAc G) (N, σ) = ((N, (chg S (stp S n) (gAc G) N O σ).1), (chg S (stp S n) (gAc G) N O σ).2) := by unfold act1; rw [if_neg (by omega), if_neg (by omega)]
                refine w_p (pc1 := 5) rfl rfl ?_
                refine w_p (pc1 := 7) (st1 := .int 8 :: _) rfl rfl ?_
                refine w_f (a := 69) (b := 10) (bN_ge_f (a := i) (b := 8) (by omega) (by omega) (by omega)) rfl rfl ?_
                refine w_p (pc1 := 11) rfl rfl ?_
                refine w_m0 (pc1 := 14) rfl rfl (h_gC rfl rfl rfl rfl) rfl ?_
                refine w_p (pc1 := 16) rfl rfl ?_
                refine w_je (pc1 := 19) (vs := [.ref 106, .int (nI (i))]) (rest := []) (st1 := [.ref (241 + kg)]) (m_123_s (d := 4 * n + 14) (sl := 0) (by omega) hkg) rfl rfl rfl (fun _ _ => rfl) rfl (by exact cl_v my_123 rfl rfl rfl (Nat.le_of_ble_eq_true rfl) rfl (MH_obj rfl rfl) rfl (by decide) rfl rfl) (by rfl) (Nat.le_of_ble_eq_true rfl) (Nat.le_of_ble_eq_true rfl) rfl (by rfl) ?_
                refine w_p (pc1 := 21) (al1 := [(6, .ref (241 + kg)), (5, .int (nI (i))), (0, .ref 124), (1, .int (nI (gTb G))), (2, .int (nI (gTi G))), (3, .int (nI (gEv G))), (4, .int (nI (D)))]) rfl rfl ?_
                refine w_p (pc1 := 23) rfl rfl ?_
                refine w_f (a := 63) (b := 26) rfl rfl rfl ?_
                refine w_p (pc1 := 28) rfl rfl ?_
                refine w_p (pc1 := 29) rfl rfl ?_
                refine w_p (pc1 := 30) rfl rfl ?_
                refine w_p (pc1 := 31) rfl rfl ?_
                refine w_je (pc1 := 34) (vs := [.ref (241 + kg), .int (nI (gTb G)), .int (nI (gTi G)), .int (nI (gEv G))]) (rest := []) (st1 := [.int 1]) (hfor) rfl rfl rfl (fun _ _ => rfl) rfl (by exact cl_v my_124 rfl rfl rfl (Nat.le_of_ble_eq_true rfl) rfl (x_obj hT) rfl (by decide) rfl rfl) (by rfl) (Nat.le_of_ble_eq_true rfl) (Nat.le_of_ble_eq_true rfl) rfl (by rfl) ?_
                refine w_f (a := 63) (b := 37) rfl rfl rfl ?_
                refine w_p (pc1 := 38) rfl rfl ?_
                refine w_p (pc1 := 40) rfl rfl ?_
                refine w_m0 (pc1 := 43) (st1 := .ref (241 + kk) :: _) rfl rfl (x_gf (k := kg) rfl hT rfl) rfl ?_
                refine w_p (pc1 := 44) (st1 := .int 0 :: _) rfl rfl ?_
                refine w_p (pc1 := 46) rfl rfl ?_
                refine w_ji (pc1 := 49) (vs := [.ref 124, .ref (241 + kk), .int 0, .int (nI (D))]) (rest := []) (hts) rfl rfl rfl (fun _ _ => rfl) rfl (by exact cl_v my_125 rfl rfl rfl (Nat.le_of_ble_eq_true rfl) rfl (MH_obj rfl rfl) rfl (by decide) rfl rfl) (by rfl) (Nat.le_of_ble_eq_true rfl) (Nat.le_of_ble_eq_true rfl) rfl (fun v h1 d1 hq => ?_) (fun a h1 d1 hq => ?_)
                · obtain ⟨y, hy, hv, ⟨t1, hs1, hh⟩, hn⟩ := hq
                  cases hy
                  subst hv; subst hh; subst hn
                  have hT1 := stk_o hs1 hT
                  have hcall := m_109 (sl := 0) ho hS hD (B1 t1 hs1) (hac1 t1 hs1) o5 hk3
                  refine w_f (a := 63) (b := 52) rfl rfl rfl ?_
                  refine w_p (pc1 := 53) rfl rfl ?_
                  refine w_p (pc1 := 55) rfl rfl ?_
                  refine w_m0 (pc1 := 58) (st1 := .ref (241 + ka) :: _) rfl rfl (x_gf (k := kg) rfl hT1 rfl) rfl ?_
                  refine w_p (pc1 := 60) rfl rfl ?_
                  refine w_ji (pc1 := 63) (vs := [.ref 124, .ref (241 + ka), .int (nI (D))]) (rest := []) (hcall) rfl rfl rfl (fun _ _ => rfl) rfl (by exact cl_v my_109 rfl rfl rfl (Nat.le_of_ble_eq_true rfl) rfl (MH_obj rfl rfl) rfl (by decide) rfl rfl) (by rfl) (Nat.le_of_ble_eq_true rfl) (Nat.le_of_ble_eq_true rfl) rfl (fun v h1 d1 hq => ?_) (fun a h1 d1 hq => ?_)
                  · obtain ⟨z1, hv, ⟨C9, t9, ⟨z2, z3, z4⟩, hh⟩, hn⟩ := hq
                    subst hv; subst hh; subst hn
                    have f9 : frE D D C C9 := frE_u z3 (by omega) (by omega)
                    refine w_iinc (pc1 := 66) (u := nI (i)) (z := nI (i + 1)) (al1 := [(5, .int (nI (i + 1))), (6, .ref (241 + kg)), (0, .ref 124), (1, .int (nI (gTb G))), (2, .int (nI (gTi G))), (3, .int (nI (gEv G))), (4, .int (nI (D)))]) rfl rfl rfl nK_1 rfl rfl ?_
                    refine w_p (pc1 := 3) rfl rfl ?_
                    refine Wd_al (al := [(5, .int (nI (i + 1))), (0, .ref 124), (1, .int (nI (gTb G))), (2, .int (nI (gTi G))), (3, .int (nI (gEv G))), (4, .int (nI (D)))]) (sba_p [0, 2, 3, 4, 5, 6] rfl rfl) ?_
                    rw [lop_n (show fir1 S (stp S n) (gTb G) (gTi G) (gEv G) O i (N, σ) = ((N, (chg S (stp S n) (gAc G) N O σ).1), none) by rw [e1, e2, ← z1])]
                    exact ih C9 t9 N _ ⟨KS_k (B1 t1 hs1).1 f9 z4, z2, B.2.2.1, bfK_E z3 (by omega) B.2.2.2.1, bfK_E z3 (by omega) B.2.2.2.2⟩ (frE_t hf f9) (stk_t hst (stk_t hs1 z4))
                  · rcases hq with ⟨e9, C9, t9, ⟨z1, z2, z3, z4, z5⟩, ha, hh, hn⟩
                    · subst ha; subst hh; subst hn
                      refine Or.inl ⟨ch_new (by decide) rfl, ?_⟩
                      rw [lop_s (show fir1 S (stp S n) (gTb G) (gTi G) (gEv G) O i (N, σ) = ((N, (chg S (stp S n) (gAc G) N O σ).1), some e9) by rw [e1, e2, ← z1])]
                      exact ⟨e9, C9, t9, ⟨rfl, z2, z3, frE_t hf (frE_u z4 (by omega) (by omega)), stk_t hst (stk_t hs1 z5)⟩, rfl, rfl, rfl⟩
                · rcases hq with ⟨hy, _⟩
                  · cases hy
              · rcases o5 with ⟨h1, _⟩ | ⟨h1, _⟩ | ⟨h1, _⟩ | ⟨h1, h2, c, l, h3, h4, h5, h6⟩ | ⟨h1, h2⟩
                · omega
                · omega
                · omega
                · have hc6 : c < 6 := by have := ho.1 _ htb; omega
                  have e2 : act1 S (stp S n) O (gAc G) (N, σ) = match smv noF N O (some l) with | none => ((N, σ), some byZ) | some v => ((upF N c v, σ), none) := by unfold act1; rw [if_neg (by omega), if_pos h1, h4, h3]; rfl
                  refine w_p (pc1 := 5) rfl rfl ?_
                  refine w_p (pc1 := 7) (st1 := .int 8 :: _) rfl rfl ?_
                  refine w_f (a := 69) (b := 10) (bN_ge_f (a := i) (b := 8) (by omega) (by omega) (by omega)) rfl rfl ?_
                  refine w_p (pc1 := 11) rfl rfl ?_
                  refine w_m0 (pc1 := 14) rfl rfl (h_gC rfl rfl rfl rfl) rfl ?_
                  refine w_p (pc1 := 16) rfl rfl ?_
                  refine w_je (pc1 := 19) (vs := [.ref 106, .int (nI (i))]) (rest := []) (st1 := [.ref (241 + kg)]) (m_123_s (d := 4 * n + 14) (sl := 0) (by omega) hkg) rfl rfl rfl (fun _ _ => rfl) rfl (by exact cl_v my_123 rfl rfl rfl (Nat.le_of_ble_eq_true rfl) rfl (MH_obj rfl rfl) rfl (by decide) rfl rfl) (by rfl) (Nat.le_of_ble_eq_true rfl) (Nat.le_of_ble_eq_true rfl) rfl (by rfl) ?_
                  refine w_p (pc1 := 21) (al1 := [(6, .ref (241 + kg)), (5, .int (nI (i))), (0, .ref 124), (1, .int (nI (gTb G))), (2, .int (nI (gTi G))), (3, .int (nI (gEv G))), (4, .int (nI (D)))]) rfl rfl ?_
                  refine w_p (pc1 := 23) rfl rfl ?_
                  refine w_f (a := 63) (b := 26) rfl rfl rfl ?_
                  refine w_p (pc1 := 28) rfl rfl ?_
                  refine w_p (pc1 := 29) rfl rfl ?_
                  refine w_p (pc1 := 30) rfl rfl ?_
                  refine w_p (pc1 := 31) rfl rfl ?_
                  refine w_je (pc1 := 34) (vs := [.ref (241 + kg), .int (nI (gTb G)), .int (nI (gTi G)), .int (nI (gEv G))]) (rest := []) (st1 := [.int 1]) (hfor) rfl rfl rfl (fun _ _ => rfl) rfl (by exact cl_v my_124 rfl rfl rfl (Nat.le_of_ble_eq_true rfl) rfl (x_obj hT) rfl (by decide) rfl rfl) (by rfl) (Nat.le_of_ble_eq_true rfl) (Nat.le_of_ble_eq_true rfl) rfl (by rfl) ?_
                  refine w_f (a := 63) (b := 37) rfl rfl rfl ?_
                  refine w_p (pc1 := 38) rfl rfl ?_
                  refine w_p (pc1 := 40) rfl rfl ?_
                  refine w_m0 (pc1 := 43) (st1 := .ref (241 + kk) :: _) rfl rfl (x_gf (k := kg) rfl hT rfl) rfl ?_
                  refine w_p (pc1 := 44) (st1 := .int 0 :: _) rfl rfl ?_
                  refine w_p (pc1 := 46) rfl rfl ?_
                  refine w_ji (pc1 := 49) (vs := [.ref 124, .ref (241 + kk), .int 0, .int (nI (D))]) (rest := []) (hts) rfl rfl rfl (fun _ _ => rfl) rfl (by exact cl_v my_125 rfl rfl rfl (Nat.le_of_ble_eq_true rfl) rfl (MH_obj rfl rfl) rfl (by decide) rfl rfl) (by rfl) (Nat.le_of_ble_eq_true rfl) (Nat.le_of_ble_eq_true rfl) rfl (fun v h1 d1 hq => ?_) (fun a h1 d1 hq => ?_)
                  · obtain ⟨y, hy, hv, ⟨t1, hs1, hh⟩, hn⟩ := hq
                    cases hy
                    subst hv; subst hh; subst hn
                    have hT1 := stk_o hs1 hT
                    have hcall := m_109_3 (L := L) (xs := xs) (d := 4 * n + 5) (sl := 0) ho hD (B1 t1 hs1) (hac1 t1 hs1) h1 h2 h3 h4 hc6 h6
                    refine w_f (a := 63) (b := 52) rfl rfl rfl ?_
                    refine w_p (pc1 := 53) rfl rfl ?_
                    refine w_p (pc1 := 55) rfl rfl ?_
                    refine w_m0 (pc1 := 58) (st1 := .ref (241 + ka) :: _) rfl rfl (x_gf (k := kg) rfl hT1 rfl) rfl ?_
                    refine w_p (pc1 := 60) rfl rfl ?_
                    refine w_ji (pc1 := 63) (vs := [.ref 124, .ref (241 + ka), .int (nI (D))]) (rest := []) (hcall) rfl rfl rfl (fun _ _ => rfl) rfl (by exact cl_v my_109 rfl rfl rfl (Nat.le_of_ble_eq_true rfl) rfl (MH_obj rfl rfl) rfl (by decide) rfl rfl) (by rfl) (Nat.le_of_ble_eq_true rfl) (Nat.le_of_ble_eq_true rfl) rfl (fun v h1 d1 hq => ?_) (fun a h1 d1 hq => ?_)
                    · obtain ⟨hv, ⟨x9, C9, t9, ⟨z1, z2, z3, z4⟩, hh⟩, hn⟩ := hq
                      subst hv; subst hh; subst hn
                      have f9 : frE D D C C9 := frB_E z3 (by omega)
                      refine w_iinc (pc1 := 66) (u := nI (i)) (z := nI (i + 1)) (al1 := [(5, .int (nI (i + 1))), (6, .ref (241 + kg)), (0, .ref 124), (1, .int (nI (gTb G))), (2, .int (nI (gTi G))), (3, .int (nI (gEv G))), (4, .int (nI (D)))]) rfl rfl rfl nK_1 rfl rfl ?_
                      refine w_p (pc1 := 3) rfl rfl ?_
                      refine Wd_al (al := [(5, .int (nI (i + 1))), (0, .ref 124), (1, .int (nI (gTb G))), (2, .int (nI (gTi G))), (3, .int (nI (gEv G))), (4, .int (nI (D)))]) (sba_p [0, 2, 3, 4, 5, 6] rfl rfl) ?_
                      rw [lop_n (show fir1 S (stp S n) (gTb G) (gTi G) (gEv G) O i (N, σ) = ((upF N c x9, σ), none) by rw [e1, e2, z1])]
                      exact ih C9 t9 (upF N c x9) σ ⟨KS_k (B1 t1 hs1).1 f9 z4, KE_B z3 (by omega) B.2.1, B.2.2.1, z2, bfK_B z3 (by omega) B.2.2.2.2⟩ (frE_t hf f9) (stk_t hst (stk_t hs1 z4))
                    · rcases hq with ⟨t9, ⟨z1, z2⟩, ha, hh, hn⟩
                      · subst ha; subst hh; subst hn
                        refine Or.inl ⟨ch_new (by decide) rfl, ?_⟩
                        rw [lop_s (show fir1 S (stp S n) (gTb G) (gTi G) (gEv G) O i (N, σ) = ((N, σ), some byZ) by rw [e1, e2, z1])]
                        exact ⟨byZ, sI C 24 6 4, t9, ⟨rfl, KX_s B.2.1.2.2, spK_z, frE_t hf frE_s, stk_t hst (stk_t hs1 z2)⟩, rfl, rfl, rfl⟩
                  · rcases hq with ⟨hy, _⟩
                    · cases hy
                · have e2 : act1 S (stp S n) O (gAc G) (N, σ) = ((N, σ), some (3, aNo (gAc G), 0)) := by unfold act1; rw [if_pos h1]
                  rw [lop_s (show fir1 S (stp S n) (gTb G) (gTi G) (gEv G) O i (N, σ) = ((N, σ), some (3, aNo (gAc G), 0)) by rw [e1, e2])]
                  refine w_p (pc1 := 5) rfl rfl ?_
                  refine w_p (pc1 := 7) (st1 := .int 8 :: _) rfl rfl ?_
                  refine w_f (a := 69) (b := 10) (bN_ge_f (a := i) (b := 8) (by omega) (by omega) (by omega)) rfl rfl ?_
                  refine w_p (pc1 := 11) rfl rfl ?_
                  refine w_m0 (pc1 := 14) rfl rfl (h_gC rfl rfl rfl rfl) rfl ?_
                  refine w_p (pc1 := 16) rfl rfl ?_
                  refine w_je (pc1 := 19) (vs := [.ref 106, .int (nI (i))]) (rest := []) (st1 := [.ref (241 + kg)]) (m_123_s (d := 4 * n + 14) (sl := 0) (by omega) hkg) rfl rfl rfl (fun _ _ => rfl) rfl (by exact cl_v my_123 rfl rfl rfl (Nat.le_of_ble_eq_true rfl) rfl (MH_obj rfl rfl) rfl (by decide) rfl rfl) (by rfl) (Nat.le_of_ble_eq_true rfl) (Nat.le_of_ble_eq_true rfl) rfl (by rfl) ?_
                  refine w_p (pc1 := 21) (al1 := [(6, .ref (241 + kg)), (5, .int (nI (i))), (0, .ref 124), (1, .int (nI (gTb G))), (2, .int (nI (gTi G))), (3, .int (nI (gEv G))), (4, .int (nI (D)))]) rfl rfl ?_
                  refine w_p (pc1 := 23) rfl rfl ?_
                  refine w_f (a := 63) (b := 26) rfl rfl rfl ?_
                  refine w_p (pc1 := 28) rfl rfl ?_
                  refine w_p (pc1 := 29) rfl rfl ?_
                  refine w_p (pc1 := 30) rfl rfl ?_
                  refine w_p (pc1 := 31) rfl rfl ?_
                  refine w_je (pc1 := 34) (vs := [.ref (241 + kg), .int (nI (gTb G)), .int (nI (gTi G)), .int (nI (gEv G))]) (rest := []) (st1 := [.int 1]) (hfor) rfl rfl rfl (fun _ _ => rfl) rfl (by exact cl_v my_124 rfl rfl rfl (Nat.le_of_ble_eq_true rfl) rfl (x_obj hT) rfl (by decide) rfl rfl) (by rfl) (Nat.le_of_ble_eq_true rfl) (Nat.le_of_ble_eq_true rfl) rfl (by rfl) ?_
                  refine w_f (a := 63) (b := 37) rfl rfl rfl ?_
                  refine w_p (pc1 := 38) rfl rfl ?_
                  refine w_p (pc1 := 40) rfl rfl ?_
                  refine w_m0 (pc1 := 43) (st1 := .ref (241 + kk) :: _) rfl rfl (x_gf (k := kg) rfl hT rfl) rfl ?_
                  refine w_p (pc1 := 44) (st1 := .int 0 :: _) rfl rfl ?_
                  refine w_p (pc1 := 46) rfl rfl ?_
                  refine w_ji (pc1 := 49) (vs := [.ref 124, .ref (241 + kk), .int 0, .int (nI (D))]) (rest := []) (hts) rfl rfl rfl (fun _ _ => rfl) rfl (by exact cl_v my_125 rfl rfl rfl (Nat.le_of_ble_eq_true rfl) rfl (MH_obj rfl rfl) rfl (by decide) rfl rfl) (by rfl) (Nat.le_of_ble_eq_true rfl) (Nat.le_of_ble_eq_true rfl) rfl (fun v h1 d1 hq => ?_) (fun a h1 d1 hq => ?_)
                  · obtain ⟨y, hy, hv, ⟨t1, hs1, hh⟩, hn⟩ := hq
                    cases hy
                    subst hv; subst hh; subst hn
                    have hT1 := stk_o hs1 hT
                    have hcall := m_109_4 (L := L) (xs := xs) (C := C) (d := 4 * n + 7) (sl := 0) hD (hac1 t1 hs1) h1 h2
                    refine w_f (a := 63) (b := 52) rfl rfl rfl ?_
                    refine w_p (pc1 := 53) rfl rfl ?_
                    refine w_p (pc1 := 55) rfl rfl ?_
                    refine w_m0 (pc1 := 58) (st1 := .ref (241 + ka) :: _) rfl rfl (x_gf (k := kg) rfl hT1 rfl) rfl ?_
                    refine w_p (pc1 := 60) rfl rfl ?_
                    refine w_ji (pc1 := 63) (vs := [.ref 124, .ref (241 + ka), .int (nI (D))]) (rest := []) (hcall) rfl rfl rfl (fun _ _ => rfl) rfl (by exact cl_v my_109 rfl rfl rfl (Nat.le_of_ble_eq_true rfl) rfl (MH_obj rfl rfl) rfl (by decide) rfl rfl) (by rfl) (Nat.le_of_ble_eq_true rfl) (Nat.le_of_ble_eq_true rfl) rfl (fun v h1 d1 hq => ?_) (fun a h1 d1 hq => ?_)
                    · exact hq.elim
                    · rcases hq with ⟨ha, hh, hn⟩
                      · subst ha; subst hh; subst hn
                        refine Or.inl ⟨ch_new (by decide) rfl, ?_⟩
                        exact ⟨(3, aNo (gAc G), 0), sI (sI C 24 11 (aNo (gAc G))) 24 6 3, t1, ⟨rfl, B.2.1.2.2, ⟨rfl, fun h => absurd (show (3 : Nat) = 2 from h) (by decide), fun _ => rfl⟩, frE_t hf (frE_t (frE_j (by decide)) frE_s), stk_t hst hs1⟩, rfl, rfl, rfl⟩
                  · rcases hq with ⟨hy, _⟩
                    · cases hy
      · rw [if_neg hm] at hfor
        have e1 : fir1 S (stp S n) tb ti ev O i (N, σ) = ((N, σ), none) := by rw [e0, hG]; exact if_neg hm
        rw [lop_n e1]
        refine w_p (pc1 := 5) rfl rfl ?_
        refine w_p (pc1 := 7) (st1 := .int 8 :: _) rfl rfl ?_
        refine w_f (a := 69) (b := 10) (bN_ge_f (a := i) (b := 8) (by omega) (by omega) (by omega)) rfl rfl ?_
        refine w_p (pc1 := 11) rfl rfl ?_
        refine w_m0 (pc1 := 14) rfl rfl (h_gC rfl rfl rfl rfl) rfl ?_
        refine w_p (pc1 := 16) rfl rfl ?_
        refine w_je (pc1 := 19) (vs := [.ref 106, .int (nI (i))]) (rest := []) (st1 := [.ref (241 + kg)]) (m_123_s (d := 4 * n + 14) (sl := 0) (by omega) hkg) rfl rfl rfl (fun _ _ => rfl) rfl (by exact cl_v my_123 rfl rfl rfl (Nat.le_of_ble_eq_true rfl) rfl (MH_obj rfl rfl) rfl (by decide) rfl rfl) (by rfl) (Nat.le_of_ble_eq_true rfl) (Nat.le_of_ble_eq_true rfl) rfl (by rfl) ?_
        refine w_p (pc1 := 21) (al1 := [(6, .ref (241 + kg)), (5, .int (nI (i))), (0, .ref 124), (1, .int (nI (tb))), (2, .int (nI (ti))), (3, .int (nI (ev))), (4, .int (nI (D)))]) rfl rfl ?_
        refine w_p (pc1 := 23) rfl rfl ?_
        refine w_f (a := 63) (b := 26) rfl rfl rfl ?_
        refine w_p (pc1 := 28) rfl rfl ?_
        refine w_p (pc1 := 29) rfl rfl ?_
        refine w_p (pc1 := 30) rfl rfl ?_
        refine w_p (pc1 := 31) rfl rfl ?_
        refine w_je (pc1 := 34) (vs := [.ref (241 + kg), .int (nI (tb)), .int (nI (ti)), .int (nI (ev))]) (rest := []) (st1 := [.int 0]) (hfor) rfl rfl rfl (fun _ _ => rfl) rfl (by exact cl_v my_124 rfl rfl rfl (Nat.le_of_ble_eq_true rfl) rfl (x_obj hT) rfl (by decide) rfl rfl) (by rfl) (Nat.le_of_ble_eq_true rfl) (Nat.le_of_ble_eq_true rfl) rfl (by rfl) ?_
        refine w_t (a := 63) (b := 37) rfl rfl rfl ?_
        refine w_iinc (pc1 := 66) (u := nI (i)) (z := nI (i + 1)) (al1 := [(5, .int (nI (i + 1))), (6, .ref (241 + kg)), (0, .ref 124), (1, .int (nI (tb))), (2, .int (nI (ti))), (3, .int (nI (ev))), (4, .int (nI (D)))]) rfl rfl rfl nK_1 rfl rfl ?_
        refine w_p (pc1 := 3) rfl rfl ?_
        refine Wd_al (al := [(5, .int (nI (i + 1))), (0, .ref 124), (1, .int (nI (tb))), (2, .int (nI (ti))), (3, .int (nI (ev))), (4, .int (nI (D)))]) (sba_p [0, 2, 3, 4, 5, 6] rfl rfl) ?_
        exact ih C t N σ B hf hst
set_option maxRecDepth 100000 in
theorem m_122 {tb ti ev : Nat} (ho : okSt S) (hS : STP L xs S n (D + 1)) (hD : D < 13) (hD1 : 1 ≤ D) (htb : tb < 6) (hti : ti < 2) (hev : ev < 3) (B : KB C t S σ D (wN (sWd S) tb ev) (wO (sWd S) tb ev) N O) : Wd L xs (4 * n + 12 + 3) y_122 (0, [(0, .ref 124), (1, .int (nI (tb))), (2, .int (nI (ti))), (3, .int (nI (ev))), (4, .int (nI (D)))], [], MH C t, sl) (PF C t (sWd S) D (wN (sWd S) tb ev) sl (fir S (stp S n) tb ti ev O (N, σ))) (XR C t D D sl ((fir S (stp S n) tb ti ev O (N, σ)).1.2, (fir S (stp S n) tb ti ev O (N, σ)).2)) := by
  refine w_p (pc1 := 1) (st1 := .int 0 :: _) rfl rfl ?_
  refine w_p (pc1 := 3) (al1 := [(5, .int 0), (0, .ref 124), (1, .int (nI (tb))), (2, .int (nI (ti))), (3, .int (nI (ev))), (4, .int (nI (D)))]) rfl rfl ?_
  exact lp_122 ho hS hD hD1 htb hti hev 8 0 C t N σ rfl B frE_r stk_r
end KE5
