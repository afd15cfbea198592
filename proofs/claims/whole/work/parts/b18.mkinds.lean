
/-! THE OTHER SIDE READS STATEMENTS, 20: each kind of statement -/
section MSR2
variable {L : Nat} {xs : Nat → Int32} {B : Nat → Nat} {n : Nat} {C C' C0 C1 : co_T} {t : ab_H} {d i i0 i1 j b e p k w q : Nat} {U V : Nat → Prop} {c : Int32} {sc : sc_T} {row : Option Nat} {tg : Option (Nat × Nat)} {nl : Option Nat} {E : fe_T} {tr : Nat → Option tr_T}
variable {ru : Nat → Option ru_T} {P : Option Value → ab_H → Nat → Prop} {s : Int32} {mk : Nat × (Nat → Int64)} {Tb : tb_S} {a : Nat}
set_option maxRecDepth 100000 in
theorem MS_ub {U0 V0 : Nat → Prop} (M : MS B n U0 V0 C0 C i nl) : MS B n U V C C i nl := ⟨M.1, M.2.1, M.2.2.1, M.2.2.2.1, M.2.2.2.2.1, fSy_r⟩
set_option maxRecDepth 100000 in
theorem PRS_b {α : Type} {x : pz_T (α × Nat × Option Nat)} {Q : α → co_T → Prop} (f : fX U V C C1) : ∀ v h m, PRS B n U V C1 t x Q v h m → PRS B n U V C t x Q v h m := by
  intro v h m hq
  rcases hq with ⟨hv, ⟨C', ⟨a, i', nl', h1, h2, h3, h4, h5, h6⟩, hh⟩, hn⟩ | ⟨hv, ⟨C', ⟨c, j, h1, h2, h3⟩, hh⟩, hn⟩
  · exact Or.inl ⟨hv, ⟨C', ⟨a, i', nl', h1, h2, h3, h4, fX_t f h5, h6⟩, hh⟩, hn⟩
  · exact Or.inr ⟨hv, ⟨C', ⟨c, j, h1, h2, fX_t f h3⟩, hh⟩, hn⟩
set_option maxRecDepth 100000 in
theorem m_193k {α : Type} {x : pz_T (α × Nat × Option Nat)} {Q : α → co_T → Prop} (hd : 4 ≤ d) (T : tpM C B n) (N : NDM C ru tr) (hk : kd B n 0 ≠ 1) (H : ∀ C1, MB B n C1 0 none → fD1 C C1 → (C1.1 76 43 = nI (ndS ru tr) ∧ C1.1 76 42 = 0 ∧ C1.1 76 46 = -1 ∧ C1.1 76 47 = -1) → Wd L xs d y_193 (65, [(0, .ref 176)], [], MH C1 t, 0) (PRS B n U V C1 t x Q) nX) : Wd L xs d y_193 (0, [(0, .ref 176)], [], MH C t, 0) (PRS B n U V C t x Q) nX := by
  obtain ⟨e, rfl⟩ : ∃ e, d = e + 4 := ⟨d - 4, by omega⟩
  exact m_193s T N (fun h => absurd h hk) (fun _ C1 M D h => Wd_q (H C1 M D h) (PRS_b (fD_X D)) (fun _ _ _ e => e))
set_option maxRecDepth 100000 in
theorem TM0_D (H : TM0 C Tb) (f : fD1 C C') : TM0 C' Tb := TM0_o H (fun k j h _ => f.1 k j (by omega)) (fun k j h _ => f.2.1 k j (by omega))
set_option maxRecDepth 100000 in
theorem TM0_1 {v : Int32} (H : TM0 C Tb) : TM0 (sI C 76 97 v) Tb := TM0_o H (fun k j h _ => by rw [sI_1, if_neg (by omega)]) (fun k j h _ => rfl)
set_option maxRecDepth 100000 in
theorem SCM_D (S : SCM C sc) (f : fD1 C C') : SCM C' sc := fun b hb => ⟨(f.1 78 b (by omega)).trans (S b hb).1, fun hz => by
  obtain ⟨h1, h2, h3, h4⟩ := (S b hb).2 hz
  exact ⟨(f.2.1 79 b (by omega)).trans h1, (f.1 80 b (by omega)).trans h2, h3, fun c hc => (f.2.1 81 _ (by omega)).trans (h4 c hc)⟩⟩
set_option maxRecDepth 100000 in
theorem TGM_D (H : TGM C tr) (f : fD1 C C') : TGM C' tr := fun i hi => opM_m (fun u hu => TRM_o hu (fun k j hk => f.1 k j (by omega)) (fun k j hk => f.2.1 k j (by omega))) (f.1 95 i (by omega)) (H i hi)
set_option maxRecDepth 100000 in
theorem MKM_D (H : MKM C mk) (f : fD1 C C') : MKM C' mk := ⟨(f.1 76 70 (by omega)).trans H.1, H.2.1, fun j hj => (f.2.1 123 j (by omega)).trans (H.2.2 j hj)⟩
set_option maxRecDepth 100000 in
theorem RGM_D (H : RGM C ru) (f : fD1 C C') : RGM C' ru := RGM_o H (fun k j h => f.1 k j (by omega))
set_option maxRecDepth 100000 in
theorem r65_37 (hU0 : ∀ r, r < 24 → C.1 83 r = 0 → U r) (hV : ∀ b, b < 6 → Tb.1.1 b = 0 → V b) (M : MB B n C 0 none) (H : TM0 C Tb) (hok : ∀ i u, Tb.2.2 i = some u → okRu u) (hW : wok Tb) (hW0 : ∀ q, q < 6 → Tb.1.1 q = 0 → Tb.1.2.1 q = 0) (hk : kd B n 0 = 37) (h43 : C.1 76 43 = nI a) (h42 : C.1 76 42 = 0) (ha : a + k = 400) : Wd L xs (d + 12) y_193 (65, [(0, .ref 176)], [], MH C t, 0) (PRS B n U V C t (rTbl (tkP B n) Tb 0 (some k)) (fun T' C' => (∃ b l', b < 6 ∧ tbN Tb.1.1 = nI b ∧ TMo C' b T' l' none) ∧ C'.1 76 97 = 1)) nX := by
  have M2 : MS B n U V (sI C 76 97 1) (sI C 76 97 1) 0 none := MS_ub (MB_I (v := 1) M (Or.inl rfl))
  refine w_p (pc1 := 66) rfl rfl ?_
  refine w_m0 (pc1 := 69) (st1 := .long 499850046565 :: _) rfl rfl rfl rfl ?_
  refine w_je (pc1 := 72) (vs := [.ref 176, .long 499850046565]) (rest := []) (st1 := [.int 1]) (m_205t (d := _) (sl := 0) ((wd_k (k := 37) M.2.1 (by decide) (by decide)).trans (decide_eq_true hk))) rfl rfl rfl (fun _ _ => rfl) rfl (by exact cl_v my_205 rfl rfl rfl (Nat.le_of_ble_eq_true rfl) rfl (MH_obj rfl rfl) rfl (by decide) rfl rfl) (by rfl) (Nat.le_of_ble_eq_true rfl) (Nat.le_of_ble_eq_true rfl) rfl (by rfl) ?_
  refine w_f (a := 87) (b := 75) rfl rfl rfl ?_
  refine w_p (pc1 := 76) rfl rfl ?_
  refine w_p (pc1 := 77) (st1 := .int 1 :: _) rfl rfl ?_
  refine w_m0 (pc1 := 80) rfl rfl (h_pI (j := 97) rfl rfl rfl rfl rfl rfl rfl ⟨rfl, rfl⟩ rfl) rfl ?_
  refine w_p (pc1 := 81) rfl rfl ?_
  refine w_ji (pc1 := 84) (vs := [.ref 176]) (rest := []) (m_206 (d := _) (fun r h1 h2 => hU0 r h1 (by rw [sI_1, if_neg (by omega)] at h2; exact h2)) hV M2 (TM0_1 H) hok hW hW0 hk (by rw [sI_1, if_neg (by omega)]; exact h43) (by rw [sI_1, if_neg (by omega)]; exact h42) ha) rfl rfl rfl (fun _ _ => rfl) rfl (by exact cl_v my_206 rfl rfl rfl (Nat.le_of_ble_eq_true rfl) rfl (MH_obj rfl rfl) rfl (by decide) rfl rfl) (by rfl) (Nat.le_of_ble_eq_true rfl) (Nat.le_of_ble_eq_true rfl) rfl (fun v h1 d1 hq => ?_) (fun _ _ _ e => e.elim)
  rcases hq with ⟨b, hv, ⟨C3, ⟨T3, l3, i3, nl3, g1, g2, g3, M3, H3⟩, hh⟩, hn⟩ | ⟨hv, ⟨C3, ⟨c3, j3, g1, F3⟩, hh⟩, hn⟩
  · subst hv; subst hh; subst hn
    refine w_p (pc1 := 174) rfl rfl ?_
    exact Wd_up (by omega) (e174 (d := d) M3 g1 ⟨⟨b, l3, g2.1, g2.2, H3⟩, (fSy_f M3.2.2.2.2.2 (by omega)).trans (by rw [sI_1, if_pos ⟨rfl, rfl⟩])⟩ (fX_t (fX_I (Or.inl rfl)) (fX_S M3.2.2.2.2.2)))
  · subst hv; subst hh; subst hn
    refine w_p (pc1 := 174) rfl rfl ?_
    exact e174f F3 (PRS_f F3 g1 (fX_t (fX_I (Or.inl rfl)) (fX_S F3.2.2.2.1)))
set_option maxRecDepth 100000 in
theorem r65_39 (hU : ∀ g, g < 8 → tr g = none → U (32 + g) ∧ U (24 + g)) (M : MB B n C 0 none) (S : SCM C sc) (G : TGM C tr) (hk : kd B n 0 = 39) (h43 : C.1 76 43 = nI a) (h42 : C.1 76 42 = 0) (ha : a + k = 400) : Wd L xs (d + 13) y_193 (65, [(0, .ref 176)], [], MH C t, 0) (PRS B n U V C t (rTrg (tkP B n) sc tr 0 (some k)) (fun G' C' => (∃ g, g < 8 ∧ trN tr = nI g ∧ TRM C' g G' ∧ C'.1 105 g = C'.1 76 42 ∧ C'.1 76 60 = nI g ∧ C'.1 76 43 = nI a) ∧ C'.1 76 97 = 2)) nX := by
  have M2 : MS B n U V (sI C 76 97 2) (sI C 76 97 2) 0 none := MS_ub (MB_I (v := 2) M (Or.inl rfl))
  refine w_p (pc1 := 66) rfl rfl ?_
  refine w_m0 (pc1 := 69) (st1 := .long 499850046565 :: _) rfl rfl rfl rfl ?_
  refine w_je (pc1 := 72) (vs := [.ref 176, .long 499850046565]) (rest := []) (st1 := [.int 0]) (m_205f (d := _) (sl := 0) ((wd_k (k := 37) M.2.1 (by decide) (by decide)).trans (decide_eq_false (by rw [hk]; decide)))) rfl rfl rfl (fun _ _ => rfl) rfl (by exact cl_v my_205 rfl rfl rfl (Nat.le_of_ble_eq_true rfl) rfl (MH_obj rfl rfl) rfl (by decide) rfl rfl) (by rfl) (Nat.le_of_ble_eq_true rfl) (Nat.le_of_ble_eq_true rfl) rfl (by rfl) ?_
  refine w_t (a := 87) (b := 75) rfl rfl rfl ?_
  refine w_p (pc1 := 88) rfl rfl ?_
  refine w_m0 (pc1 := 91) (st1 := .long 32776894330398066 :: _) rfl rfl rfl rfl ?_
  refine w_je (pc1 := 94) (vs := [.ref 176, .long 32776894330398066]) (rest := []) (st1 := [.int 1]) (m_205t (d := _) (sl := 0) ((wd_k (k := 39) M.2.1 (by decide) (by decide)).trans (decide_eq_true hk))) rfl rfl rfl (fun _ _ => rfl) rfl (by exact cl_v my_205 rfl rfl rfl (Nat.le_of_ble_eq_true rfl) rfl (MH_obj rfl rfl) rfl (by decide) rfl rfl) (by rfl) (Nat.le_of_ble_eq_true rfl) (Nat.le_of_ble_eq_true rfl) rfl (by rfl) ?_
  refine w_f (a := 109) (b := 97) rfl rfl rfl ?_
  refine w_p (pc1 := 98) rfl rfl ?_
  refine w_p (pc1 := 99) (st1 := .int 2 :: _) rfl rfl ?_
  refine w_m0 (pc1 := 102) rfl rfl (h_pI (j := 97) rfl rfl rfl rfl rfl rfl rfl ⟨rfl, rfl⟩ rfl) rfl ?_
  refine w_p (pc1 := 103) rfl rfl ?_
  refine w_ji (pc1 := 106) (vs := [.ref 176]) (rest := []) (m_236 (d := _) hU M2 (SCM_1 S (by omega)) (TGM_1 G) hk (by rw [sI_1, if_neg (by omega)]; exact h43) (by rw [sI_1, if_neg (by omega)]; exact h42) ha) rfl rfl rfl (fun _ _ => rfl) rfl (by exact cl_v my_236 rfl rfl rfl (Nat.le_of_ble_eq_true rfl) rfl (MH_obj rfl rfl) rfl (by decide) rfl rfl) (by rfl) (Nat.le_of_ble_eq_true rfl) (Nat.le_of_ble_eq_true rfl) rfl (fun v h1 d1 hq => ?_) (fun _ _ _ e => e.elim)
  rcases hq with ⟨g, hv, ⟨C3, ⟨G3, i3, nl3, g1, g2, g3, M3, H3, q1, q2⟩, hh⟩, hn⟩ | ⟨hv, ⟨C3, ⟨c3, j3, g1, F3⟩, hh⟩, hn⟩
  · subst hv; subst hh; subst hn
    refine w_p (pc1 := 174) rfl rfl ?_
    exact Wd_up (by omega) (e174 (d := d) M3 g1 ⟨⟨g, g2.1, g2.2, H3, q1, q2, (fSy_f M3.2.2.2.2.2 (by omega)).trans (by rw [sI_1, if_neg (by omega)]; exact h43)⟩, (fSy_f M3.2.2.2.2.2 (by omega)).trans (by rw [sI_1, if_pos ⟨rfl, rfl⟩])⟩ (fX_t (fX_I (Or.inl rfl)) (fX_S M3.2.2.2.2.2)))
  · subst hv; subst hh; subst hn
    refine w_p (pc1 := 174) rfl rfl ?_
    exact e174f F3 (PRS_f F3 g1 (fX_t (fX_I (Or.inl rfl)) (fX_S F3.2.2.2.1)))
set_option maxRecDepth 100000 in
theorem r65_18 (hU : U 40) (M : MB B n C 0 none) (S : SCM C sc) (h46 : C.1 76 46 = -1 ∧ C.1 76 47 = -1) (hb : (C.1 76 48 = 0 ∨ C.1 76 48 = 1) ∧ (C.1 76 49 = 0 ∨ C.1 76 49 = 1)) (hk : kd B n 0 = 18) : Wd L xs (d + 11) y_193 (65, [(0, .ref 176)], [], MH C t, 0) (PRS B n U V C t (rChg (tkP B n) sc none 0 none) (fun A' C' => ACM C' 40 A' ∧ C'.1 76 97 = 5)) nX := by
  have M2 : MS B n U V (sI C 76 97 5) (sI C 76 97 5) 0 none := MS_ub (MB_I (v := 5) M (Or.inl rfl))
  have R2 : RXM (sI C 76 97 5) sc none none := by
    refine ⟨?_, ?_, ?_, fun b e => (by cases e), fun p e => (by cases e)⟩
    · rw [sI_1, if_neg (by omega)]
      exact h46.1
    · rw [sI_1, if_neg (by omega)]
      exact h46.2
    · rw [sI_1, if_neg (by omega), sI_1, if_neg (by omega)]
      exact hb
  refine w_p (pc1 := 66) rfl rfl ?_
  refine w_m0 (pc1 := 69) (st1 := .long 499850046565 :: _) rfl rfl rfl rfl ?_
  refine w_je (pc1 := 72) (vs := [.ref 176, .long 499850046565]) (rest := []) (st1 := [.int 0]) (m_205f (d := _) (sl := 0) ((wd_k (k := 37) M.2.1 (by decide) (by decide)).trans (decide_eq_false (by rw [hk]; decide)))) rfl rfl rfl (fun _ _ => rfl) rfl (by exact cl_v my_205 rfl rfl rfl (Nat.le_of_ble_eq_true rfl) rfl (MH_obj rfl rfl) rfl (by decide) rfl rfl) (by rfl) (Nat.le_of_ble_eq_true rfl) (Nat.le_of_ble_eq_true rfl) rfl (by rfl) ?_
  refine w_t (a := 87) (b := 75) rfl rfl rfl ?_
  refine w_p (pc1 := 88) rfl rfl ?_
  refine w_m0 (pc1 := 91) (st1 := .long 32776894330398066 :: _) rfl rfl rfl rfl ?_
  refine w_je (pc1 := 94) (vs := [.ref 176, .long 32776894330398066]) (rest := []) (st1 := [.int 0]) (m_205f (d := _) (sl := 0) ((wd_k (k := 39) M.2.1 (by decide) (by decide)).trans (decide_eq_false (by rw [hk]; decide)))) rfl rfl rfl (fun _ _ => rfl) rfl (by exact cl_v my_205 rfl rfl rfl (Nat.le_of_ble_eq_true rfl) rfl (MH_obj rfl rfl) rfl (by decide) rfl rfl) (by rfl) (Nat.le_of_ble_eq_true rfl) (Nat.le_of_ble_eq_true rfl) rfl (by rfl) ?_
  refine w_t (a := 109) (b := 97) rfl rfl rfl ?_
  refine w_p (pc1 := 110) rfl rfl ?_
  refine w_m0 (pc1 := 113) (st1 := .long 1685221232 :: _) rfl rfl rfl rfl ?_
  refine w_je (pc1 := 116) (vs := [.ref 176, .long 1685221232]) (rest := []) (st1 := [.int 0]) (m_205f (d := _) (sl := 0) ((wd_k (k := 17) M.2.1 (by decide) (by decide)).trans (decide_eq_false (by rw [hk]; decide)))) rfl rfl rfl (fun _ _ => rfl) rfl (by exact cl_v my_205 rfl rfl rfl (Nat.le_of_ble_eq_true rfl) rfl (MH_obj rfl rfl) rfl (by decide) rfl rfl) (by rfl) (Nat.le_of_ble_eq_true rfl) (Nat.le_of_ble_eq_true rfl) rfl (by rfl) ?_
  refine w_t (a := 126) (b := 119) rfl rfl rfl ?_
  refine w_p (pc1 := 127) rfl rfl ?_
  refine w_m0 (pc1 := 130) (st1 := .long 115923103347316 :: _) rfl rfl rfl rfl ?_
  refine w_je (pc1 := 133) (vs := [.ref 176, .long 115923103347316]) (rest := []) (st1 := [.int 1]) (m_205t (d := _) (sl := 0) ((wd_k (k := 18) M.2.1 (by decide) (by decide)).trans (decide_eq_true hk))) rfl rfl rfl (fun _ _ => rfl) rfl (by exact cl_v my_205 rfl rfl rfl (Nat.le_of_ble_eq_true rfl) rfl (MH_obj rfl rfl) rfl (by decide) rfl rfl) (by rfl) (Nat.le_of_ble_eq_true rfl) (Nat.le_of_ble_eq_true rfl) rfl (by rfl) ?_
  refine w_t (a := 156) (b := 136) rfl rfl rfl ?_
  refine w_p (pc1 := 157) rfl rfl ?_
  refine w_p (pc1 := 158) (st1 := .int 5 :: _) rfl rfl ?_
  refine w_m0 (pc1 := 161) rfl rfl (h_pI (j := 97) rfl rfl rfl rfl rfl rfl rfl ⟨rfl, rfl⟩ rfl) rfl ?_
  refine w_p (pc1 := 162) rfl rfl ?_
  refine w_p (pc1 := 164) (st1 := .int 40 :: _) rfl rfl ?_
  refine w_ji (pc1 := 167) (vs := [.ref 176, .int 40]) (rest := []) (m_240_18 (d := _) (p := 40) hU (by omega) M2 R2 (SCM_1 S (by omega)) hk) rfl rfl rfl (fun _ _ => rfl) rfl (by exact cl_v my_240 rfl rfl rfl (Nat.le_of_ble_eq_true rfl) rfl (MH_obj rfl rfl) rfl (by decide) rfl rfl) (by rfl) (Nat.le_of_ble_eq_true rfl) (Nat.le_of_ble_eq_true rfl) rfl (fun v h1 d1 hq => ?_) (fun _ _ _ e => e.elim)
  rcases hq with ⟨hv, ⟨C3, ⟨a3, i3, nl3, g1, g2, M3, H3, f3⟩, hh⟩, hn⟩ | ⟨hv, ⟨C3, ⟨c3, j3, g1, F3⟩, hh⟩, hn⟩
  · subst hv; subst hh; subst hn
    refine w_p (pc1 := 174) rfl rfl ?_
    exact Wd_up (by omega) (e174 (d := d) M3 g1 ⟨H3, (fSy_f M3.2.2.2.2.2 (by omega)).trans (by rw [sI_1, if_pos ⟨rfl, rfl⟩])⟩ (fX_t (fX_I (Or.inl rfl)) (fX_S M3.2.2.2.2.2)))
  · subst hv; subst hh; subst hn
    refine w_p (pc1 := 174) rfl rfl ?_
    exact e174f F3 (PRS_f F3 g1 (fX_t (fX_I (Or.inl rfl)) (fX_S F3.2.2.2.1)))
set_option maxRecDepth 100000 in
theorem r65_41 (hU : U 40) (M : MB B n C 0 none) (S : SCM C sc) (h46 : C.1 76 46 = -1 ∧ C.1 76 47 = -1) (hb : (C.1 76 48 = 0 ∨ C.1 76 48 = 1) ∧ (C.1 76 49 = 0 ∨ C.1 76 49 = 1)) (hk : kd B n 0 = 41) : Wd L xs (d + 11) y_193 (65, [(0, .ref 176)], [], MH C t, 0) (PRS B n U V C t (rChg (tkP B n) sc none 0 none) (fun A' C' => ACM C' 40 A' ∧ C'.1 76 97 = 5)) nX := by
  have M2 : MS B n U V (sI C 76 97 5) (sI C 76 97 5) 0 none := MS_ub (MB_I (v := 5) M (Or.inl rfl))
  have R2 : RXM (sI C 76 97 5) sc none none := by
    refine ⟨?_, ?_, ?_, fun b e => (by cases e), fun p e => (by cases e)⟩
    · rw [sI_1, if_neg (by omega)]
      exact h46.1
    · rw [sI_1, if_neg (by omega)]
      exact h46.2
    · rw [sI_1, if_neg (by omega), sI_1, if_neg (by omega)]
      exact hb
  refine w_p (pc1 := 66) rfl rfl ?_
  refine w_m0 (pc1 := 69) (st1 := .long 499850046565 :: _) rfl rfl rfl rfl ?_
  refine w_je (pc1 := 72) (vs := [.ref 176, .long 499850046565]) (rest := []) (st1 := [.int 0]) (m_205f (d := _) (sl := 0) ((wd_k (k := 37) M.2.1 (by decide) (by decide)).trans (decide_eq_false (by rw [hk]; decide)))) rfl rfl rfl (fun _ _ => rfl) rfl (by exact cl_v my_205 rfl rfl rfl (Nat.le_of_ble_eq_true rfl) rfl (MH_obj rfl rfl) rfl (by decide) rfl rfl) (by rfl) (Nat.le_of_ble_eq_true rfl) (Nat.le_of_ble_eq_true rfl) rfl (by rfl) ?_
  refine w_t (a := 87) (b := 75) rfl rfl rfl ?_
  refine w_p (pc1 := 88) rfl rfl ?_
  refine w_m0 (pc1 := 91) (st1 := .long 32776894330398066 :: _) rfl rfl rfl rfl ?_
  refine w_je (pc1 := 94) (vs := [.ref 176, .long 32776894330398066]) (rest := []) (st1 := [.int 0]) (m_205f (d := _) (sl := 0) ((wd_k (k := 39) M.2.1 (by decide) (by decide)).trans (decide_eq_false (by rw [hk]; decide)))) rfl rfl rfl (fun _ _ => rfl) rfl (by exact cl_v my_205 rfl rfl rfl (Nat.le_of_ble_eq_true rfl) rfl (MH_obj rfl rfl) rfl (by decide) rfl rfl) (by rfl) (Nat.le_of_ble_eq_true rfl) (Nat.le_of_ble_eq_true rfl) rfl (by rfl) ?_
  refine w_t (a := 109) (b := 97) rfl rfl rfl ?_
  refine w_p (pc1 := 110) rfl rfl ?_
  refine w_m0 (pc1 := 113) (st1 := .long 1685221232 :: _) rfl rfl rfl rfl ?_
  refine w_je (pc1 := 116) (vs := [.ref 176, .long 1685221232]) (rest := []) (st1 := [.int 0]) (m_205f (d := _) (sl := 0) ((wd_k (k := 17) M.2.1 (by decide) (by decide)).trans (decide_eq_false (by rw [hk]; decide)))) rfl rfl rfl (fun _ _ => rfl) rfl (by exact cl_v my_205 rfl rfl rfl (Nat.le_of_ble_eq_true rfl) rfl (MH_obj rfl rfl) rfl (by decide) rfl rfl) (by rfl) (Nat.le_of_ble_eq_true rfl) (Nat.le_of_ble_eq_true rfl) rfl (by rfl) ?_
  refine w_t (a := 126) (b := 119) rfl rfl rfl ?_
  refine w_p (pc1 := 127) rfl rfl ?_
  refine w_m0 (pc1 := 130) (st1 := .long 115923103347316 :: _) rfl rfl rfl rfl ?_
  refine w_je (pc1 := 133) (vs := [.ref 176, .long 115923103347316]) (rest := []) (st1 := [.int 0]) (m_205f (d := _) (sl := 0) ((wd_k (k := 18) M.2.1 (by decide) (by decide)).trans (decide_eq_false (by rw [hk]; decide)))) rfl rfl rfl (fun _ _ => rfl) rfl (by exact cl_v my_205 rfl rfl rfl (Nat.le_of_ble_eq_true rfl) rfl (MH_obj rfl rfl) rfl (by decide) rfl rfl) (by rfl) (Nat.le_of_ble_eq_true rfl) (Nat.le_of_ble_eq_true rfl) rfl (by rfl) ?_
  refine w_f (a := 156) (b := 136) rfl rfl rfl ?_
  refine w_p (pc1 := 137) rfl rfl ?_
  refine w_m0 (pc1 := 140) (st1 := .long 129125580895333 :: _) rfl rfl rfl rfl ?_
  refine w_je (pc1 := 143) (vs := [.ref 176, .long 129125580895333]) (rest := []) (st1 := [.int 1]) (m_205t (d := _) (sl := 0) ((wd_k (k := 41) M.2.1 (by decide) (by decide)).trans (decide_eq_true hk))) rfl rfl rfl (fun _ _ => rfl) rfl (by exact cl_v my_205 rfl rfl rfl (Nat.le_of_ble_eq_true rfl) rfl (MH_obj rfl rfl) rfl (by decide) rfl rfl) (by rfl) (Nat.le_of_ble_eq_true rfl) (Nat.le_of_ble_eq_true rfl) rfl (by rfl) ?_
  refine w_t (a := 156) (b := 146) rfl rfl rfl ?_
  refine w_p (pc1 := 157) rfl rfl ?_
  refine w_p (pc1 := 158) (st1 := .int 5 :: _) rfl rfl ?_
  refine w_m0 (pc1 := 161) rfl rfl (h_pI (j := 97) rfl rfl rfl rfl rfl rfl rfl ⟨rfl, rfl⟩ rfl) rfl ?_
  refine w_p (pc1 := 162) rfl rfl ?_
  refine w_p (pc1 := 164) (st1 := .int 40 :: _) rfl rfl ?_
  refine w_ji (pc1 := 167) (vs := [.ref 176, .int 40]) (rest := []) (m_240_41 (d := _) (p := 40) hU (by omega) M2 R2 (SCM_1 S (by omega)) hk) rfl rfl rfl (fun _ _ => rfl) rfl (by exact cl_v my_240 rfl rfl rfl (Nat.le_of_ble_eq_true rfl) rfl (MH_obj rfl rfl) rfl (by decide) rfl rfl) (by rfl) (Nat.le_of_ble_eq_true rfl) (Nat.le_of_ble_eq_true rfl) rfl (fun v h1 d1 hq => ?_) (fun _ _ _ e => e.elim)
  rcases hq with ⟨hv, ⟨C3, ⟨a3, i3, nl3, g1, g2, M3, H3, f3⟩, hh⟩, hn⟩ | ⟨hv, ⟨C3, ⟨c3, j3, g1, F3⟩, hh⟩, hn⟩
  · subst hv; subst hh; subst hn
    refine w_p (pc1 := 174) rfl rfl ?_
    exact Wd_up (by omega) (e174 (d := d) M3 g1 ⟨H3, (fSy_f M3.2.2.2.2.2 (by omega)).trans (by rw [sI_1, if_pos ⟨rfl, rfl⟩])⟩ (fX_t (fX_I (Or.inl rfl)) (fX_S M3.2.2.2.2.2)))
  · subst hv; subst hh; subst hn
    refine w_p (pc1 := 174) rfl rfl ?_
    exact e174f F3 (PRS_f F3 g1 (fX_t (fX_I (Or.inl rfl)) (fX_S F3.2.2.2.1)))
set_option maxRecDepth 100000 in
theorem r65_15 (hU : U 40) (M : MB B n C 0 none) (S : SCM C sc) (h46 : C.1 76 46 = -1 ∧ C.1 76 47 = -1) (hb : (C.1 76 48 = 0 ∨ C.1 76 48 = 1) ∧ (C.1 76 49 = 0 ∨ C.1 76 49 = 1)) (hk : kd B n 0 = 15) : Wd L xs (d + 11) y_193 (65, [(0, .ref 176)], [], MH C t, 0) (PRS B n U V C t (rChg (tkP B n) sc none 0 none) (fun A' C' => ACM C' 40 A' ∧ C'.1 76 97 = 5)) nX := by
  have M2 : MS B n U V (sI C 76 97 5) (sI C 76 97 5) 0 none := MS_ub (MB_I (v := 5) M (Or.inl rfl))
  have R2 : RXM (sI C 76 97 5) sc none none := by
    refine ⟨?_, ?_, ?_, fun b e => (by cases e), fun p e => (by cases e)⟩
    · rw [sI_1, if_neg (by omega)]
      exact h46.1
    · rw [sI_1, if_neg (by omega)]
      exact h46.2
    · rw [sI_1, if_neg (by omega), sI_1, if_neg (by omega)]
      exact hb
  refine w_p (pc1 := 66) rfl rfl ?_
  refine w_m0 (pc1 := 69) (st1 := .long 499850046565 :: _) rfl rfl rfl rfl ?_
  refine w_je (pc1 := 72) (vs := [.ref 176, .long 499850046565]) (rest := []) (st1 := [.int 0]) (m_205f (d := _) (sl := 0) ((wd_k (k := 37) M.2.1 (by decide) (by decide)).trans (decide_eq_false (by rw [hk]; decide)))) rfl rfl rfl (fun _ _ => rfl) rfl (by exact cl_v my_205 rfl rfl rfl (Nat.le_of_ble_eq_true rfl) rfl (MH_obj rfl rfl) rfl (by decide) rfl rfl) (by rfl) (Nat.le_of_ble_eq_true rfl) (Nat.le_of_ble_eq_true rfl) rfl (by rfl) ?_
  refine w_t (a := 87) (b := 75) rfl rfl rfl ?_
  refine w_p (pc1 := 88) rfl rfl ?_
  refine w_m0 (pc1 := 91) (st1 := .long 32776894330398066 :: _) rfl rfl rfl rfl ?_
  refine w_je (pc1 := 94) (vs := [.ref 176, .long 32776894330398066]) (rest := []) (st1 := [.int 0]) (m_205f (d := _) (sl := 0) ((wd_k (k := 39) M.2.1 (by decide) (by decide)).trans (decide_eq_false (by rw [hk]; decide)))) rfl rfl rfl (fun _ _ => rfl) rfl (by exact cl_v my_205 rfl rfl rfl (Nat.le_of_ble_eq_true rfl) rfl (MH_obj rfl rfl) rfl (by decide) rfl rfl) (by rfl) (Nat.le_of_ble_eq_true rfl) (Nat.le_of_ble_eq_true rfl) rfl (by rfl) ?_
  refine w_t (a := 109) (b := 97) rfl rfl rfl ?_
  refine w_p (pc1 := 110) rfl rfl ?_
  refine w_m0 (pc1 := 113) (st1 := .long 1685221232 :: _) rfl rfl rfl rfl ?_
  refine w_je (pc1 := 116) (vs := [.ref 176, .long 1685221232]) (rest := []) (st1 := [.int 0]) (m_205f (d := _) (sl := 0) ((wd_k (k := 17) M.2.1 (by decide) (by decide)).trans (decide_eq_false (by rw [hk]; decide)))) rfl rfl rfl (fun _ _ => rfl) rfl (by exact cl_v my_205 rfl rfl rfl (Nat.le_of_ble_eq_true rfl) rfl (MH_obj rfl rfl) rfl (by decide) rfl rfl) (by rfl) (Nat.le_of_ble_eq_true rfl) (Nat.le_of_ble_eq_true rfl) rfl (by rfl) ?_
  refine w_t (a := 126) (b := 119) rfl rfl rfl ?_
  refine w_p (pc1 := 127) rfl rfl ?_
  refine w_m0 (pc1 := 130) (st1 := .long 115923103347316 :: _) rfl rfl rfl rfl ?_
  refine w_je (pc1 := 133) (vs := [.ref 176, .long 115923103347316]) (rest := []) (st1 := [.int 0]) (m_205f (d := _) (sl := 0) ((wd_k (k := 18) M.2.1 (by decide) (by decide)).trans (decide_eq_false (by rw [hk]; decide)))) rfl rfl rfl (fun _ _ => rfl) rfl (by exact cl_v my_205 rfl rfl rfl (Nat.le_of_ble_eq_true rfl) rfl (MH_obj rfl rfl) rfl (by decide) rfl rfl) (by rfl) (Nat.le_of_ble_eq_true rfl) (Nat.le_of_ble_eq_true rfl) rfl (by rfl) ?_
  refine w_f (a := 156) (b := 136) rfl rfl rfl ?_
  refine w_p (pc1 := 137) rfl rfl ?_
  refine w_m0 (pc1 := 140) (st1 := .long 129125580895333 :: _) rfl rfl rfl rfl ?_
  refine w_je (pc1 := 143) (vs := [.ref 176, .long 129125580895333]) (rest := []) (st1 := [.int 0]) (m_205f (d := _) (sl := 0) ((wd_k (k := 41) M.2.1 (by decide) (by decide)).trans (decide_eq_false (by rw [hk]; decide)))) rfl rfl rfl (fun _ _ => rfl) rfl (by exact cl_v my_205 rfl rfl rfl (Nat.le_of_ble_eq_true rfl) rfl (MH_obj rfl rfl) rfl (by decide) rfl rfl) (by rfl) (Nat.le_of_ble_eq_true rfl) (Nat.le_of_ble_eq_true rfl) rfl (by rfl) ?_
  refine w_f (a := 156) (b := 146) rfl rfl rfl ?_
  refine w_p (pc1 := 147) rfl rfl ?_
  refine w_m0 (pc1 := 150) (st1 := .long 110386773062757 :: _) rfl rfl rfl rfl ?_
  refine w_je (pc1 := 153) (vs := [.ref 176, .long 110386773062757]) (rest := []) (st1 := [.int 1]) (m_205t (d := _) (sl := 0) ((wd_k (k := 15) M.2.1 (by decide) (by decide)).trans (decide_eq_true hk))) rfl rfl rfl (fun _ _ => rfl) rfl (by exact cl_v my_205 rfl rfl rfl (Nat.le_of_ble_eq_true rfl) rfl (MH_obj rfl rfl) rfl (by decide) rfl rfl) (by rfl) (Nat.le_of_ble_eq_true rfl) (Nat.le_of_ble_eq_true rfl) rfl (by rfl) ?_
  refine w_f (a := 170) (b := 156) rfl rfl rfl ?_
  refine w_p (pc1 := 157) rfl rfl ?_
  refine w_p (pc1 := 158) (st1 := .int 5 :: _) rfl rfl ?_
  refine w_m0 (pc1 := 161) rfl rfl (h_pI (j := 97) rfl rfl rfl rfl rfl rfl rfl ⟨rfl, rfl⟩ rfl) rfl ?_
  refine w_p (pc1 := 162) rfl rfl ?_
  refine w_p (pc1 := 164) (st1 := .int 40 :: _) rfl rfl ?_
  refine w_ji (pc1 := 167) (vs := [.ref 176, .int 40]) (rest := []) (m_240_15 (d := _) (p := 40) hU (by omega) M2 R2 (SCM_1 S (by omega)) hk) rfl rfl rfl (fun _ _ => rfl) rfl (by exact cl_v my_240 rfl rfl rfl (Nat.le_of_ble_eq_true rfl) rfl (MH_obj rfl rfl) rfl (by decide) rfl rfl) (by rfl) (Nat.le_of_ble_eq_true rfl) (Nat.le_of_ble_eq_true rfl) rfl (fun v h1 d1 hq => ?_) (fun _ _ _ e => e.elim)
  rcases hq with ⟨hv, ⟨C3, ⟨a3, i3, nl3, g1, g2, M3, H3, f3⟩, hh⟩, hn⟩ | ⟨hv, ⟨C3, ⟨c3, j3, g1, F3⟩, hh⟩, hn⟩
  · subst hv; subst hh; subst hn
    refine w_p (pc1 := 174) rfl rfl ?_
    exact Wd_up (by omega) (e174 (d := d) M3 g1 ⟨H3, (fSy_f M3.2.2.2.2.2 (by omega)).trans (by rw [sI_1, if_pos ⟨rfl, rfl⟩])⟩ (fX_t (fX_I (Or.inl rfl)) (fX_S M3.2.2.2.2.2)))
  · subst hv; subst hh; subst hn
    refine w_p (pc1 := 174) rfl rfl ?_
    exact e174f F3 (PRS_f F3 g1 (fX_t (fX_I (Or.inl rfl)) (fX_S F3.2.2.2.1)))
set_option maxRecDepth 100000 in
theorem r65_17 (S : SCM C sc) (G : TGM C tr) (M : MB B n C 0 none) (hk : kd B n 0 = 17) : Wd L xs (d + 7) y_193 (65, [(0, .ref 176)], [], MH C t, 0) (PRS B n nN nN C t (rDrp (tkP B n) sc tr 0 none) (fun a C' => C'.1 76 97 = (if a.1 = 37 then 3 else 4) ∧ C'.1 76 98 = a.2)) nX := by
  refine w_p (pc1 := 66) rfl rfl ?_
  refine w_m0 (pc1 := 69) (st1 := .long 499850046565 :: _) rfl rfl rfl rfl ?_
  refine w_je (pc1 := 72) (vs := [.ref 176, .long 499850046565]) (rest := []) (st1 := [.int 0]) (m_205f (d := _) (sl := 0) ((wd_k (k := 37) M.2.1 (by decide) (by decide)).trans (decide_eq_false (by rw [hk]; decide)))) rfl rfl rfl (fun _ _ => rfl) rfl (by exact cl_v my_205 rfl rfl rfl (Nat.le_of_ble_eq_true rfl) rfl (MH_obj rfl rfl) rfl (by decide) rfl rfl) (by rfl) (Nat.le_of_ble_eq_true rfl) (Nat.le_of_ble_eq_true rfl) rfl (by rfl) ?_
  refine w_t (a := 87) (b := 75) rfl rfl rfl ?_
  refine w_p (pc1 := 88) rfl rfl ?_
  refine w_m0 (pc1 := 91) (st1 := .long 32776894330398066 :: _) rfl rfl rfl rfl ?_
  refine w_je (pc1 := 94) (vs := [.ref 176, .long 32776894330398066]) (rest := []) (st1 := [.int 0]) (m_205f (d := _) (sl := 0) ((wd_k (k := 39) M.2.1 (by decide) (by decide)).trans (decide_eq_false (by rw [hk]; decide)))) rfl rfl rfl (fun _ _ => rfl) rfl (by exact cl_v my_205 rfl rfl rfl (Nat.le_of_ble_eq_true rfl) rfl (MH_obj rfl rfl) rfl (by decide) rfl rfl) (by rfl) (Nat.le_of_ble_eq_true rfl) (Nat.le_of_ble_eq_true rfl) rfl (by rfl) ?_
  refine w_t (a := 109) (b := 97) rfl rfl rfl ?_
  refine w_p (pc1 := 110) rfl rfl ?_
  refine w_m0 (pc1 := 113) (st1 := .long 1685221232 :: _) rfl rfl rfl rfl ?_
  refine w_je (pc1 := 116) (vs := [.ref 176, .long 1685221232]) (rest := []) (st1 := [.int 1]) (m_205t (d := _) (sl := 0) ((wd_k (k := 17) M.2.1 (by decide) (by decide)).trans (decide_eq_true hk))) rfl rfl rfl (fun _ _ => rfl) rfl (by exact cl_v my_205 rfl rfl rfl (Nat.le_of_ble_eq_true rfl) rfl (MH_obj rfl rfl) rfl (by decide) rfl rfl) (by rfl) (Nat.le_of_ble_eq_true rfl) (Nat.le_of_ble_eq_true rfl) rfl (by rfl) ?_
  refine w_f (a := 126) (b := 119) rfl rfl rfl ?_
  refine w_p (pc1 := 120) rfl rfl ?_
  refine w_ji (pc1 := 123) (vs := [.ref 176]) (rest := []) (m_243 (d := _) M S G hk) rfl rfl rfl (fun _ _ => rfl) rfl (by exact cl_v my_243 rfl rfl rfl (Nat.le_of_ble_eq_true rfl) rfl (MH_obj rfl rfl) rfl (by decide) rfl rfl) (by rfl) (Nat.le_of_ble_eq_true rfl) (Nat.le_of_ble_eq_true rfl) rfl (fun v h1 d1 hq => ?_) (fun _ _ _ e => e.elim)
  rcases hq with ⟨hv, ⟨C3, ⟨a3, i3, nl3, g1, g2, M3, H3, f3⟩, hh⟩, hn⟩ | ⟨hv, ⟨C3, ⟨c3, j3, g1, F3, f3⟩, hh⟩, hn⟩
  · subst hv; subst hh; subst hn
    refine w_p (pc1 := 174) rfl rfl ?_
    exact Wd_up (by omega) (e174 (d := d) M3 g1 H3 (fX_W f3))
  · subst hv; subst hh; subst hn
    refine w_p (pc1 := 174) rfl rfl ?_
    exact e174f F3 (PRS_f F3 g1 (fX_W f3))
set_option maxRecDepth 100000 in
theorem r65_10 (M : MB B n C 0 none) (hk : kd B n 0 = 10) : Wd L xs (d + 5) y_193 (65, [(0, .ref 176)], [], MH C t, 0) (PRS B n nN nN C t (.inr ((), 0 + 1, none)) (fun _ C' => C'.1 76 97 = 6)) nX := by
  refine w_p (pc1 := 66) rfl rfl ?_
  refine w_m0 (pc1 := 69) (st1 := .long 499850046565 :: _) rfl rfl rfl rfl ?_
  refine w_je (pc1 := 72) (vs := [.ref 176, .long 499850046565]) (rest := []) (st1 := [.int 0]) (m_205f (d := _) (sl := 0) ((wd_k (k := 37) M.2.1 (by decide) (by decide)).trans (decide_eq_false (by rw [hk]; decide)))) rfl rfl rfl (fun _ _ => rfl) rfl (by exact cl_v my_205 rfl rfl rfl (Nat.le_of_ble_eq_true rfl) rfl (MH_obj rfl rfl) rfl (by decide) rfl rfl) (by rfl) (Nat.le_of_ble_eq_true rfl) (Nat.le_of_ble_eq_true rfl) rfl (by rfl) ?_
  refine w_t (a := 87) (b := 75) rfl rfl rfl ?_
  refine w_p (pc1 := 88) rfl rfl ?_
  refine w_m0 (pc1 := 91) (st1 := .long 32776894330398066 :: _) rfl rfl rfl rfl ?_
  refine w_je (pc1 := 94) (vs := [.ref 176, .long 32776894330398066]) (rest := []) (st1 := [.int 0]) (m_205f (d := _) (sl := 0) ((wd_k (k := 39) M.2.1 (by decide) (by decide)).trans (decide_eq_false (by rw [hk]; decide)))) rfl rfl rfl (fun _ _ => rfl) rfl (by exact cl_v my_205 rfl rfl rfl (Nat.le_of_ble_eq_true rfl) rfl (MH_obj rfl rfl) rfl (by decide) rfl rfl) (by rfl) (Nat.le_of_ble_eq_true rfl) (Nat.le_of_ble_eq_true rfl) rfl (by rfl) ?_
  refine w_t (a := 109) (b := 97) rfl rfl rfl ?_
  refine w_p (pc1 := 110) rfl rfl ?_
  refine w_m0 (pc1 := 113) (st1 := .long 1685221232 :: _) rfl rfl rfl rfl ?_
  refine w_je (pc1 := 116) (vs := [.ref 176, .long 1685221232]) (rest := []) (st1 := [.int 0]) (m_205f (d := _) (sl := 0) ((wd_k (k := 17) M.2.1 (by decide) (by decide)).trans (decide_eq_false (by rw [hk]; decide)))) rfl rfl rfl (fun _ _ => rfl) rfl (by exact cl_v my_205 rfl rfl rfl (Nat.le_of_ble_eq_true rfl) rfl (MH_obj rfl rfl) rfl (by decide) rfl rfl) (by rfl) (Nat.le_of_ble_eq_true rfl) (Nat.le_of_ble_eq_true rfl) rfl (by rfl) ?_
  refine w_t (a := 126) (b := 119) rfl rfl rfl ?_
  refine w_p (pc1 := 127) rfl rfl ?_
  refine w_m0 (pc1 := 130) (st1 := .long 115923103347316 :: _) rfl rfl rfl rfl ?_
  refine w_je (pc1 := 133) (vs := [.ref 176, .long 115923103347316]) (rest := []) (st1 := [.int 0]) (m_205f (d := _) (sl := 0) ((wd_k (k := 18) M.2.1 (by decide) (by decide)).trans (decide_eq_false (by rw [hk]; decide)))) rfl rfl rfl (fun _ _ => rfl) rfl (by exact cl_v my_205 rfl rfl rfl (Nat.le_of_ble_eq_true rfl) rfl (MH_obj rfl rfl) rfl (by decide) rfl rfl) (by rfl) (Nat.le_of_ble_eq_true rfl) (Nat.le_of_ble_eq_true rfl) rfl (by rfl) ?_
  refine w_f (a := 156) (b := 136) rfl rfl rfl ?_
  refine w_p (pc1 := 137) rfl rfl ?_
  refine w_m0 (pc1 := 140) (st1 := .long 129125580895333 :: _) rfl rfl rfl rfl ?_
  refine w_je (pc1 := 143) (vs := [.ref 176, .long 129125580895333]) (rest := []) (st1 := [.int 0]) (m_205f (d := _) (sl := 0) ((wd_k (k := 41) M.2.1 (by decide) (by decide)).trans (decide_eq_false (by rw [hk]; decide)))) rfl rfl rfl (fun _ _ => rfl) rfl (by exact cl_v my_205 rfl rfl rfl (Nat.le_of_ble_eq_true rfl) rfl (MH_obj rfl rfl) rfl (by decide) rfl rfl) (by rfl) (Nat.le_of_ble_eq_true rfl) (Nat.le_of_ble_eq_true rfl) rfl (by rfl) ?_
  refine w_f (a := 156) (b := 146) rfl rfl rfl ?_
  refine w_p (pc1 := 147) rfl rfl ?_
  refine w_m0 (pc1 := 150) (st1 := .long 110386773062757 :: _) rfl rfl rfl rfl ?_
  refine w_je (pc1 := 153) (vs := [.ref 176, .long 110386773062757]) (rest := []) (st1 := [.int 0]) (m_205f (d := _) (sl := 0) ((wd_k (k := 15) M.2.1 (by decide) (by decide)).trans (decide_eq_false (by rw [hk]; decide)))) rfl rfl rfl (fun _ _ => rfl) rfl (by exact cl_v my_205 rfl rfl rfl (Nat.le_of_ble_eq_true rfl) rfl (MH_obj rfl rfl) rfl (by decide) rfl rfl) (by rfl) (Nat.le_of_ble_eq_true rfl) (Nat.le_of_ble_eq_true rfl) rfl (by rfl) ?_
  refine w_t (a := 170) (b := 156) rfl rfl rfl ?_
  refine w_p (pc1 := 171) rfl rfl ?_
  refine w_ji (pc1 := 174) (vs := [.ref 176]) (rest := []) (m_244_10 (d := _) M hk) rfl rfl rfl (fun _ _ => rfl) rfl (by exact cl_v my_244 rfl rfl rfl (Nat.le_of_ble_eq_true rfl) rfl (MH_obj rfl rfl) rfl (by decide) rfl rfl) (by rfl) (Nat.le_of_ble_eq_true rfl) (Nat.le_of_ble_eq_true rfl) rfl (fun v h1 d1 hq => ?_) (fun _ _ _ e => e.elim)
  rcases hq with ⟨hv, ⟨C3, ⟨a3, i3, nl3, g1, g2, M3, H3, f3⟩, hh⟩, hn⟩ | ⟨hv, ⟨C3, ⟨c3, j3, g1, F3, f3⟩, hh⟩, hn⟩
  · subst hv; subst hh; subst hn
    exact Wd_up (by omega) (e174 (d := d) M3 g1 H3 (fX_W f3))
  · subst hv; subst hh; subst hn
    exact e174f F3 (PRS_f F3 g1 (fX_W f3))
set_option maxRecDepth 100000 in
theorem r65_13 (M : MB B n C 0 none) (hk : kd B n 0 = 13) : Wd L xs (d + 5) y_193 (65, [(0, .ref 176)], [], MH C t, 0) (PRS B n nN nN C t (.inr ((), 0 + 1, none)) (fun _ C' => C'.1 76 97 = 7)) nX := by
  refine w_p (pc1 := 66) rfl rfl ?_
  refine w_m0 (pc1 := 69) (st1 := .long 499850046565 :: _) rfl rfl rfl rfl ?_
  refine w_je (pc1 := 72) (vs := [.ref 176, .long 499850046565]) (rest := []) (st1 := [.int 0]) (m_205f (d := _) (sl := 0) ((wd_k (k := 37) M.2.1 (by decide) (by decide)).trans (decide_eq_false (by rw [hk]; decide)))) rfl rfl rfl (fun _ _ => rfl) rfl (by exact cl_v my_205 rfl rfl rfl (Nat.le_of_ble_eq_true rfl) rfl (MH_obj rfl rfl) rfl (by decide) rfl rfl) (by rfl) (Nat.le_of_ble_eq_true rfl) (Nat.le_of_ble_eq_true rfl) rfl (by rfl) ?_
  refine w_t (a := 87) (b := 75) rfl rfl rfl ?_
  refine w_p (pc1 := 88) rfl rfl ?_
  refine w_m0 (pc1 := 91) (st1 := .long 32776894330398066 :: _) rfl rfl rfl rfl ?_
  refine w_je (pc1 := 94) (vs := [.ref 176, .long 32776894330398066]) (rest := []) (st1 := [.int 0]) (m_205f (d := _) (sl := 0) ((wd_k (k := 39) M.2.1 (by decide) (by decide)).trans (decide_eq_false (by rw [hk]; decide)))) rfl rfl rfl (fun _ _ => rfl) rfl (by exact cl_v my_205 rfl rfl rfl (Nat.le_of_ble_eq_true rfl) rfl (MH_obj rfl rfl) rfl (by decide) rfl rfl) (by rfl) (Nat.le_of_ble_eq_true rfl) (Nat.le_of_ble_eq_true rfl) rfl (by rfl) ?_
  refine w_t (a := 109) (b := 97) rfl rfl rfl ?_
  refine w_p (pc1 := 110) rfl rfl ?_
  refine w_m0 (pc1 := 113) (st1 := .long 1685221232 :: _) rfl rfl rfl rfl ?_
  refine w_je (pc1 := 116) (vs := [.ref 176, .long 1685221232]) (rest := []) (st1 := [.int 0]) (m_205f (d := _) (sl := 0) ((wd_k (k := 17) M.2.1 (by decide) (by decide)).trans (decide_eq_false (by rw [hk]; decide)))) rfl rfl rfl (fun _ _ => rfl) rfl (by exact cl_v my_205 rfl rfl rfl (Nat.le_of_ble_eq_true rfl) rfl (MH_obj rfl rfl) rfl (by decide) rfl rfl) (by rfl) (Nat.le_of_ble_eq_true rfl) (Nat.le_of_ble_eq_true rfl) rfl (by rfl) ?_
  refine w_t (a := 126) (b := 119) rfl rfl rfl ?_
  refine w_p (pc1 := 127) rfl rfl ?_
  refine w_m0 (pc1 := 130) (st1 := .long 115923103347316 :: _) rfl rfl rfl rfl ?_
  refine w_je (pc1 := 133) (vs := [.ref 176, .long 115923103347316]) (rest := []) (st1 := [.int 0]) (m_205f (d := _) (sl := 0) ((wd_k (k := 18) M.2.1 (by decide) (by decide)).trans (decide_eq_false (by rw [hk]; decide)))) rfl rfl rfl (fun _ _ => rfl) rfl (by exact cl_v my_205 rfl rfl rfl (Nat.le_of_ble_eq_true rfl) rfl (MH_obj rfl rfl) rfl (by decide) rfl rfl) (by rfl) (Nat.le_of_ble_eq_true rfl) (Nat.le_of_ble_eq_true rfl) rfl (by rfl) ?_
  refine w_f (a := 156) (b := 136) rfl rfl rfl ?_
  refine w_p (pc1 := 137) rfl rfl ?_
  refine w_m0 (pc1 := 140) (st1 := .long 129125580895333 :: _) rfl rfl rfl rfl ?_
  refine w_je (pc1 := 143) (vs := [.ref 176, .long 129125580895333]) (rest := []) (st1 := [.int 0]) (m_205f (d := _) (sl := 0) ((wd_k (k := 41) M.2.1 (by decide) (by decide)).trans (decide_eq_false (by rw [hk]; decide)))) rfl rfl rfl (fun _ _ => rfl) rfl (by exact cl_v my_205 rfl rfl rfl (Nat.le_of_ble_eq_true rfl) rfl (MH_obj rfl rfl) rfl (by decide) rfl rfl) (by rfl) (Nat.le_of_ble_eq_true rfl) (Nat.le_of_ble_eq_true rfl) rfl (by rfl) ?_
  refine w_f (a := 156) (b := 146) rfl rfl rfl ?_
  refine w_p (pc1 := 147) rfl rfl ?_
  refine w_m0 (pc1 := 150) (st1 := .long 110386773062757 :: _) rfl rfl rfl rfl ?_
  refine w_je (pc1 := 153) (vs := [.ref 176, .long 110386773062757]) (rest := []) (st1 := [.int 0]) (m_205f (d := _) (sl := 0) ((wd_k (k := 15) M.2.1 (by decide) (by decide)).trans (decide_eq_false (by rw [hk]; decide)))) rfl rfl rfl (fun _ _ => rfl) rfl (by exact cl_v my_205 rfl rfl rfl (Nat.le_of_ble_eq_true rfl) rfl (MH_obj rfl rfl) rfl (by decide) rfl rfl) (by rfl) (Nat.le_of_ble_eq_true rfl) (Nat.le_of_ble_eq_true rfl) rfl (by rfl) ?_
  refine w_t (a := 170) (b := 156) rfl rfl rfl ?_
  refine w_p (pc1 := 171) rfl rfl ?_
  refine w_ji (pc1 := 174) (vs := [.ref 176]) (rest := []) (m_244_13 (d := _) M hk) rfl rfl rfl (fun _ _ => rfl) rfl (by exact cl_v my_244 rfl rfl rfl (Nat.le_of_ble_eq_true rfl) rfl (MH_obj rfl rfl) rfl (by decide) rfl rfl) (by rfl) (Nat.le_of_ble_eq_true rfl) (Nat.le_of_ble_eq_true rfl) rfl (fun v h1 d1 hq => ?_) (fun _ _ _ e => e.elim)
  rcases hq with ⟨hv, ⟨C3, ⟨a3, i3, nl3, g1, g2, M3, H3, f3⟩, hh⟩, hn⟩ | ⟨hv, ⟨C3, ⟨c3, j3, g1, F3, f3⟩, hh⟩, hn⟩
  · subst hv; subst hh; subst hn
    exact Wd_up (by omega) (e174 (d := d) M3 g1 H3 (fX_W f3))
  · subst hv; subst hh; subst hn
    exact e174f F3 (PRS_f F3 g1 (fX_W f3))
set_option maxRecDepth 100000 in
theorem r65_8 (H : MKM C mk) (M : MB B n C 0 none) (hk : kd B n 0 = 8) : Wd L xs (d + 6) y_193 (65, [(0, .ref 176)], [], MH C t, 0) (PRS B n nN nN C t (rBck (tkP B n) mk 0 none) (fun a C' => (a = -1 ∧ C'.1 76 97 = 8) ∨ (a ≠ -1 ∧ C'.1 76 97 = 9 ∧ C'.1 76 98 = a))) nX := by
  refine w_p (pc1 := 66) rfl rfl ?_
  refine w_m0 (pc1 := 69) (st1 := .long 499850046565 :: _) rfl rfl rfl rfl ?_
  refine w_je (pc1 := 72) (vs := [.ref 176, .long 499850046565]) (rest := []) (st1 := [.int 0]) (m_205f (d := _) (sl := 0) ((wd_k (k := 37) M.2.1 (by decide) (by decide)).trans (decide_eq_false (by rw [hk]; decide)))) rfl rfl rfl (fun _ _ => rfl) rfl (by exact cl_v my_205 rfl rfl rfl (Nat.le_of_ble_eq_true rfl) rfl (MH_obj rfl rfl) rfl (by decide) rfl rfl) (by rfl) (Nat.le_of_ble_eq_true rfl) (Nat.le_of_ble_eq_true rfl) rfl (by rfl) ?_
  refine w_t (a := 87) (b := 75) rfl rfl rfl ?_
  refine w_p (pc1 := 88) rfl rfl ?_
  refine w_m0 (pc1 := 91) (st1 := .long 32776894330398066 :: _) rfl rfl rfl rfl ?_
  refine w_je (pc1 := 94) (vs := [.ref 176, .long 32776894330398066]) (rest := []) (st1 := [.int 0]) (m_205f (d := _) (sl := 0) ((wd_k (k := 39) M.2.1 (by decide) (by decide)).trans (decide_eq_false (by rw [hk]; decide)))) rfl rfl rfl (fun _ _ => rfl) rfl (by exact cl_v my_205 rfl rfl rfl (Nat.le_of_ble_eq_true rfl) rfl (MH_obj rfl rfl) rfl (by decide) rfl rfl) (by rfl) (Nat.le_of_ble_eq_true rfl) (Nat.le_of_ble_eq_true rfl) rfl (by rfl) ?_
  refine w_t (a := 109) (b := 97) rfl rfl rfl ?_
  refine w_p (pc1 := 110) rfl rfl ?_
  refine w_m0 (pc1 := 113) (st1 := .long 1685221232 :: _) rfl rfl rfl rfl ?_
  refine w_je (pc1 := 116) (vs := [.ref 176, .long 1685221232]) (rest := []) (st1 := [.int 0]) (m_205f (d := _) (sl := 0) ((wd_k (k := 17) M.2.1 (by decide) (by decide)).trans (decide_eq_false (by rw [hk]; decide)))) rfl rfl rfl (fun _ _ => rfl) rfl (by exact cl_v my_205 rfl rfl rfl (Nat.le_of_ble_eq_true rfl) rfl (MH_obj rfl rfl) rfl (by decide) rfl rfl) (by rfl) (Nat.le_of_ble_eq_true rfl) (Nat.le_of_ble_eq_true rfl) rfl (by rfl) ?_
  refine w_t (a := 126) (b := 119) rfl rfl rfl ?_
  refine w_p (pc1 := 127) rfl rfl ?_
  refine w_m0 (pc1 := 130) (st1 := .long 115923103347316 :: _) rfl rfl rfl rfl ?_
  refine w_je (pc1 := 133) (vs := [.ref 176, .long 115923103347316]) (rest := []) (st1 := [.int 0]) (m_205f (d := _) (sl := 0) ((wd_k (k := 18) M.2.1 (by decide) (by decide)).trans (decide_eq_false (by rw [hk]; decide)))) rfl rfl rfl (fun _ _ => rfl) rfl (by exact cl_v my_205 rfl rfl rfl (Nat.le_of_ble_eq_true rfl) rfl (MH_obj rfl rfl) rfl (by decide) rfl rfl) (by rfl) (Nat.le_of_ble_eq_true rfl) (Nat.le_of_ble_eq_true rfl) rfl (by rfl) ?_
  refine w_f (a := 156) (b := 136) rfl rfl rfl ?_
  refine w_p (pc1 := 137) rfl rfl ?_
  refine w_m0 (pc1 := 140) (st1 := .long 129125580895333 :: _) rfl rfl rfl rfl ?_
  refine w_je (pc1 := 143) (vs := [.ref 176, .long 129125580895333]) (rest := []) (st1 := [.int 0]) (m_205f (d := _) (sl := 0) ((wd_k (k := 41) M.2.1 (by decide) (by decide)).trans (decide_eq_false (by rw [hk]; decide)))) rfl rfl rfl (fun _ _ => rfl) rfl (by exact cl_v my_205 rfl rfl rfl (Nat.le_of_ble_eq_true rfl) rfl (MH_obj rfl rfl) rfl (by decide) rfl rfl) (by rfl) (Nat.le_of_ble_eq_true rfl) (Nat.le_of_ble_eq_true rfl) rfl (by rfl) ?_
  refine w_f (a := 156) (b := 146) rfl rfl rfl ?_
  refine w_p (pc1 := 147) rfl rfl ?_
  refine w_m0 (pc1 := 150) (st1 := .long 110386773062757 :: _) rfl rfl rfl rfl ?_
  refine w_je (pc1 := 153) (vs := [.ref 176, .long 110386773062757]) (rest := []) (st1 := [.int 0]) (m_205f (d := _) (sl := 0) ((wd_k (k := 15) M.2.1 (by decide) (by decide)).trans (decide_eq_false (by rw [hk]; decide)))) rfl rfl rfl (fun _ _ => rfl) rfl (by exact cl_v my_205 rfl rfl rfl (Nat.le_of_ble_eq_true rfl) rfl (MH_obj rfl rfl) rfl (by decide) rfl rfl) (by rfl) (Nat.le_of_ble_eq_true rfl) (Nat.le_of_ble_eq_true rfl) rfl (by rfl) ?_
  refine w_t (a := 170) (b := 156) rfl rfl rfl ?_
  refine w_p (pc1 := 171) rfl rfl ?_
  refine w_ji (pc1 := 174) (vs := [.ref 176]) (rest := []) (m_244_8 (d := _) M H hk) rfl rfl rfl (fun _ _ => rfl) rfl (by exact cl_v my_244 rfl rfl rfl (Nat.le_of_ble_eq_true rfl) rfl (MH_obj rfl rfl) rfl (by decide) rfl rfl) (by rfl) (Nat.le_of_ble_eq_true rfl) (Nat.le_of_ble_eq_true rfl) rfl (fun v h1 d1 hq => ?_) (fun _ _ _ e => e.elim)
  rcases hq with ⟨hv, ⟨C3, ⟨a3, i3, nl3, g1, g2, M3, H3, f3⟩, hh⟩, hn⟩ | ⟨hv, ⟨C3, ⟨c3, j3, g1, F3, f3⟩, hh⟩, hn⟩
  · subst hv; subst hh; subst hn
    exact Wd_up (by omega) (e174 (d := d) M3 g1 H3 (fX_W f3))
  · subst hv; subst hh; subst hn
    exact e174f F3 (PRS_f F3 g1 (fX_W f3))
set_option maxRecDepth 100000 in
theorem r65_22 (H : MKM C mk) (M : MB B n C 0 none) (hk : kd B n 0 = 22) : Wd L xs (d + 6) y_193 (65, [(0, .ref 176)], [], MH C t, 0) (PRS B n nN nN C t (rMrk (tkP B n) mk 0 none) (fun a C' => C'.1 76 97 = 10 ∧ C'.2.1 76 99 = a ∧ C'.1 76 98 = mkF mk a)) nX := by
  refine w_p (pc1 := 66) rfl rfl ?_
  refine w_m0 (pc1 := 69) (st1 := .long 499850046565 :: _) rfl rfl rfl rfl ?_
  refine w_je (pc1 := 72) (vs := [.ref 176, .long 499850046565]) (rest := []) (st1 := [.int 0]) (m_205f (d := _) (sl := 0) ((wd_k (k := 37) M.2.1 (by decide) (by decide)).trans (decide_eq_false (by rw [hk]; decide)))) rfl rfl rfl (fun _ _ => rfl) rfl (by exact cl_v my_205 rfl rfl rfl (Nat.le_of_ble_eq_true rfl) rfl (MH_obj rfl rfl) rfl (by decide) rfl rfl) (by rfl) (Nat.le_of_ble_eq_true rfl) (Nat.le_of_ble_eq_true rfl) rfl (by rfl) ?_
  refine w_t (a := 87) (b := 75) rfl rfl rfl ?_
  refine w_p (pc1 := 88) rfl rfl ?_
  refine w_m0 (pc1 := 91) (st1 := .long 32776894330398066 :: _) rfl rfl rfl rfl ?_
  refine w_je (pc1 := 94) (vs := [.ref 176, .long 32776894330398066]) (rest := []) (st1 := [.int 0]) (m_205f (d := _) (sl := 0) ((wd_k (k := 39) M.2.1 (by decide) (by decide)).trans (decide_eq_false (by rw [hk]; decide)))) rfl rfl rfl (fun _ _ => rfl) rfl (by exact cl_v my_205 rfl rfl rfl (Nat.le_of_ble_eq_true rfl) rfl (MH_obj rfl rfl) rfl (by decide) rfl rfl) (by rfl) (Nat.le_of_ble_eq_true rfl) (Nat.le_of_ble_eq_true rfl) rfl (by rfl) ?_
  refine w_t (a := 109) (b := 97) rfl rfl rfl ?_
  refine w_p (pc1 := 110) rfl rfl ?_
  refine w_m0 (pc1 := 113) (st1 := .long 1685221232 :: _) rfl rfl rfl rfl ?_
  refine w_je (pc1 := 116) (vs := [.ref 176, .long 1685221232]) (rest := []) (st1 := [.int 0]) (m_205f (d := _) (sl := 0) ((wd_k (k := 17) M.2.1 (by decide) (by decide)).trans (decide_eq_false (by rw [hk]; decide)))) rfl rfl rfl (fun _ _ => rfl) rfl (by exact cl_v my_205 rfl rfl rfl (Nat.le_of_ble_eq_true rfl) rfl (MH_obj rfl rfl) rfl (by decide) rfl rfl) (by rfl) (Nat.le_of_ble_eq_true rfl) (Nat.le_of_ble_eq_true rfl) rfl (by rfl) ?_
  refine w_t (a := 126) (b := 119) rfl rfl rfl ?_
  refine w_p (pc1 := 127) rfl rfl ?_
  refine w_m0 (pc1 := 130) (st1 := .long 115923103347316 :: _) rfl rfl rfl rfl ?_
  refine w_je (pc1 := 133) (vs := [.ref 176, .long 115923103347316]) (rest := []) (st1 := [.int 0]) (m_205f (d := _) (sl := 0) ((wd_k (k := 18) M.2.1 (by decide) (by decide)).trans (decide_eq_false (by rw [hk]; decide)))) rfl rfl rfl (fun _ _ => rfl) rfl (by exact cl_v my_205 rfl rfl rfl (Nat.le_of_ble_eq_true rfl) rfl (MH_obj rfl rfl) rfl (by decide) rfl rfl) (by rfl) (Nat.le_of_ble_eq_true rfl) (Nat.le_of_ble_eq_true rfl) rfl (by rfl) ?_
  refine w_f (a := 156) (b := 136) rfl rfl rfl ?_
  refine w_p (pc1 := 137) rfl rfl ?_
  refine w_m0 (pc1 := 140) (st1 := .long 129125580895333 :: _) rfl rfl rfl rfl ?_
  refine w_je (pc1 := 143) (vs := [.ref 176, .long 129125580895333]) (rest := []) (st1 := [.int 0]) (m_205f (d := _) (sl := 0) ((wd_k (k := 41) M.2.1 (by decide) (by decide)).trans (decide_eq_false (by rw [hk]; decide)))) rfl rfl rfl (fun _ _ => rfl) rfl (by exact cl_v my_205 rfl rfl rfl (Nat.le_of_ble_eq_true rfl) rfl (MH_obj rfl rfl) rfl (by decide) rfl rfl) (by rfl) (Nat.le_of_ble_eq_true rfl) (Nat.le_of_ble_eq_true rfl) rfl (by rfl) ?_
  refine w_f (a := 156) (b := 146) rfl rfl rfl ?_
  refine w_p (pc1 := 147) rfl rfl ?_
  refine w_m0 (pc1 := 150) (st1 := .long 110386773062757 :: _) rfl rfl rfl rfl ?_
  refine w_je (pc1 := 153) (vs := [.ref 176, .long 110386773062757]) (rest := []) (st1 := [.int 0]) (m_205f (d := _) (sl := 0) ((wd_k (k := 15) M.2.1 (by decide) (by decide)).trans (decide_eq_false (by rw [hk]; decide)))) rfl rfl rfl (fun _ _ => rfl) rfl (by exact cl_v my_205 rfl rfl rfl (Nat.le_of_ble_eq_true rfl) rfl (MH_obj rfl rfl) rfl (by decide) rfl rfl) (by rfl) (Nat.le_of_ble_eq_true rfl) (Nat.le_of_ble_eq_true rfl) rfl (by rfl) ?_
  refine w_t (a := 170) (b := 156) rfl rfl rfl ?_
  refine w_p (pc1 := 171) rfl rfl ?_
  refine w_ji (pc1 := 174) (vs := [.ref 176]) (rest := []) (m_244_22 (d := _) M H hk) rfl rfl rfl (fun _ _ => rfl) rfl (by exact cl_v my_244 rfl rfl rfl (Nat.le_of_ble_eq_true rfl) rfl (MH_obj rfl rfl) rfl (by decide) rfl rfl) (by rfl) (Nat.le_of_ble_eq_true rfl) (Nat.le_of_ble_eq_true rfl) rfl (fun v h1 d1 hq => ?_) (fun _ _ _ e => e.elim)
  rcases hq with ⟨hv, ⟨C3, ⟨a3, i3, nl3, g1, g2, M3, H3, f3⟩, hh⟩, hn⟩ | ⟨hv, ⟨C3, ⟨c3, j3, g1, F3, f3⟩, hh⟩, hn⟩
  · subst hv; subst hh; subst hn
    exact Wd_up (by omega) (e174 (d := d) M3 g1 H3 (fX_W f3))
  · subst hv; subst hh; subst hn
    exact e174f F3 (PRS_f F3 g1 (fX_W f3))
set_option maxRecDepth 100000 in
theorem r65_20 (R : RGM C ru) (M : MB B n C 0 none) (hk : kd B n 0 = 20) : Wd L xs (d + 6) y_193 (65, [(0, .ref 176)], [], MH C t, 0) (PRS B n nN nN C t (rWhi (tkP B n) true ru 0 none) (fun a C' => C'.1 76 97 = 11 ∧ ∀ j, j < 24 → C'.1 139 j = ck (nmB true ru a j))) nX := by
  refine w_p (pc1 := 66) rfl rfl ?_
  refine w_m0 (pc1 := 69) (st1 := .long 499850046565 :: _) rfl rfl rfl rfl ?_
  refine w_je (pc1 := 72) (vs := [.ref 176, .long 499850046565]) (rest := []) (st1 := [.int 0]) (m_205f (d := _) (sl := 0) ((wd_k (k := 37) M.2.1 (by decide) (by decide)).trans (decide_eq_false (by rw [hk]; decide)))) rfl rfl rfl (fun _ _ => rfl) rfl (by exact cl_v my_205 rfl rfl rfl (Nat.le_of_ble_eq_true rfl) rfl (MH_obj rfl rfl) rfl (by decide) rfl rfl) (by rfl) (Nat.le_of_ble_eq_true rfl) (Nat.le_of_ble_eq_true rfl) rfl (by rfl) ?_
  refine w_t (a := 87) (b := 75) rfl rfl rfl ?_
  refine w_p (pc1 := 88) rfl rfl ?_
  refine w_m0 (pc1 := 91) (st1 := .long 32776894330398066 :: _) rfl rfl rfl rfl ?_
  refine w_je (pc1 := 94) (vs := [.ref 176, .long 32776894330398066]) (rest := []) (st1 := [.int 0]) (m_205f (d := _) (sl := 0) ((wd_k (k := 39) M.2.1 (by decide) (by decide)).trans (decide_eq_false (by rw [hk]; decide)))) rfl rfl rfl (fun _ _ => rfl) rfl (by exact cl_v my_205 rfl rfl rfl (Nat.le_of_ble_eq_true rfl) rfl (MH_obj rfl rfl) rfl (by decide) rfl rfl) (by rfl) (Nat.le_of_ble_eq_true rfl) (Nat.le_of_ble_eq_true rfl) rfl (by rfl) ?_
  refine w_t (a := 109) (b := 97) rfl rfl rfl ?_
  refine w_p (pc1 := 110) rfl rfl ?_
  refine w_m0 (pc1 := 113) (st1 := .long 1685221232 :: _) rfl rfl rfl rfl ?_
  refine w_je (pc1 := 116) (vs := [.ref 176, .long 1685221232]) (rest := []) (st1 := [.int 0]) (m_205f (d := _) (sl := 0) ((wd_k (k := 17) M.2.1 (by decide) (by decide)).trans (decide_eq_false (by rw [hk]; decide)))) rfl rfl rfl (fun _ _ => rfl) rfl (by exact cl_v my_205 rfl rfl rfl (Nat.le_of_ble_eq_true rfl) rfl (MH_obj rfl rfl) rfl (by decide) rfl rfl) (by rfl) (Nat.le_of_ble_eq_true rfl) (Nat.le_of_ble_eq_true rfl) rfl (by rfl) ?_
  refine w_t (a := 126) (b := 119) rfl rfl rfl ?_
  refine w_p (pc1 := 127) rfl rfl ?_
  refine w_m0 (pc1 := 130) (st1 := .long 115923103347316 :: _) rfl rfl rfl rfl ?_
  refine w_je (pc1 := 133) (vs := [.ref 176, .long 115923103347316]) (rest := []) (st1 := [.int 0]) (m_205f (d := _) (sl := 0) ((wd_k (k := 18) M.2.1 (by decide) (by decide)).trans (decide_eq_false (by rw [hk]; decide)))) rfl rfl rfl (fun _ _ => rfl) rfl (by exact cl_v my_205 rfl rfl rfl (Nat.le_of_ble_eq_true rfl) rfl (MH_obj rfl rfl) rfl (by decide) rfl rfl) (by rfl) (Nat.le_of_ble_eq_true rfl) (Nat.le_of_ble_eq_true rfl) rfl (by rfl) ?_
  refine w_f (a := 156) (b := 136) rfl rfl rfl ?_
  refine w_p (pc1 := 137) rfl rfl ?_
  refine w_m0 (pc1 := 140) (st1 := .long 129125580895333 :: _) rfl rfl rfl rfl ?_
  refine w_je (pc1 := 143) (vs := [.ref 176, .long 129125580895333]) (rest := []) (st1 := [.int 0]) (m_205f (d := _) (sl := 0) ((wd_k (k := 41) M.2.1 (by decide) (by decide)).trans (decide_eq_false (by rw [hk]; decide)))) rfl rfl rfl (fun _ _ => rfl) rfl (by exact cl_v my_205 rfl rfl rfl (Nat.le_of_ble_eq_true rfl) rfl (MH_obj rfl rfl) rfl (by decide) rfl rfl) (by rfl) (Nat.le_of_ble_eq_true rfl) (Nat.le_of_ble_eq_true rfl) rfl (by rfl) ?_
  refine w_f (a := 156) (b := 146) rfl rfl rfl ?_
  refine w_p (pc1 := 147) rfl rfl ?_
  refine w_m0 (pc1 := 150) (st1 := .long 110386773062757 :: _) rfl rfl rfl rfl ?_
  refine w_je (pc1 := 153) (vs := [.ref 176, .long 110386773062757]) (rest := []) (st1 := [.int 0]) (m_205f (d := _) (sl := 0) ((wd_k (k := 15) M.2.1 (by decide) (by decide)).trans (decide_eq_false (by rw [hk]; decide)))) rfl rfl rfl (fun _ _ => rfl) rfl (by exact cl_v my_205 rfl rfl rfl (Nat.le_of_ble_eq_true rfl) rfl (MH_obj rfl rfl) rfl (by decide) rfl rfl) (by rfl) (Nat.le_of_ble_eq_true rfl) (Nat.le_of_ble_eq_true rfl) rfl (by rfl) ?_
  refine w_t (a := 170) (b := 156) rfl rfl rfl ?_
  refine w_p (pc1 := 171) rfl rfl ?_
  refine w_ji (pc1 := 174) (vs := [.ref 176]) (rest := []) (m_244_20 (d := _) M R hk) rfl rfl rfl (fun _ _ => rfl) rfl (by exact cl_v my_244 rfl rfl rfl (Nat.le_of_ble_eq_true rfl) rfl (MH_obj rfl rfl) rfl (by decide) rfl rfl) (by rfl) (Nat.le_of_ble_eq_true rfl) (Nat.le_of_ble_eq_true rfl) rfl (fun v h1 d1 hq => ?_) (fun _ _ _ e => e.elim)
  rcases hq with ⟨hv, ⟨C3, ⟨a3, i3, nl3, g1, g2, M3, H3, f3⟩, hh⟩, hn⟩ | ⟨hv, ⟨C3, ⟨c3, j3, g1, F3, f3⟩, hh⟩, hn⟩
  · subst hv; subst hh; subst hn
    exact Wd_up (by omega) (e174 (d := d) M3 g1 H3 (fX_W f3))
  · subst hv; subst hh; subst hn
    exact e174f F3 (PRS_f F3 g1 (fX_W f3))
set_option maxRecDepth 100000 in
theorem r65_26 (R : RGM C ru) (M : MB B n C 0 none) (hk : kd B n 0 = 26) : Wd L xs (d + 6) y_193 (65, [(0, .ref 176)], [], MH C t, 0) (PRS B n nN nN C t (rWhi (tkP B n) false ru 0 none) (fun a C' => C'.1 76 97 = 12 ∧ ∀ j, j < 24 → C'.1 139 j = ck (nmB false ru a j))) nX := by
  refine w_p (pc1 := 66) rfl rfl ?_
  refine w_m0 (pc1 := 69) (st1 := .long 499850046565 :: _) rfl rfl rfl rfl ?_
  refine w_je (pc1 := 72) (vs := [.ref 176, .long 499850046565]) (rest := []) (st1 := [.int 0]) (m_205f (d := _) (sl := 0) ((wd_k (k := 37) M.2.1 (by decide) (by decide)).trans (decide_eq_false (by rw [hk]; decide)))) rfl rfl rfl (fun _ _ => rfl) rfl (by exact cl_v my_205 rfl rfl rfl (Nat.le_of_ble_eq_true rfl) rfl (MH_obj rfl rfl) rfl (by decide) rfl rfl) (by rfl) (Nat.le_of_ble_eq_true rfl) (Nat.le_of_ble_eq_true rfl) rfl (by rfl) ?_
  refine w_t (a := 87) (b := 75) rfl rfl rfl ?_
  refine w_p (pc1 := 88) rfl rfl ?_
  refine w_m0 (pc1 := 91) (st1 := .long 32776894330398066 :: _) rfl rfl rfl rfl ?_
  refine w_je (pc1 := 94) (vs := [.ref 176, .long 32776894330398066]) (rest := []) (st1 := [.int 0]) (m_205f (d := _) (sl := 0) ((wd_k (k := 39) M.2.1 (by decide) (by decide)).trans (decide_eq_false (by rw [hk]; decide)))) rfl rfl rfl (fun _ _ => rfl) rfl (by exact cl_v my_205 rfl rfl rfl (Nat.le_of_ble_eq_true rfl) rfl (MH_obj rfl rfl) rfl (by decide) rfl rfl) (by rfl) (Nat.le_of_ble_eq_true rfl) (Nat.le_of_ble_eq_true rfl) rfl (by rfl) ?_
  refine w_t (a := 109) (b := 97) rfl rfl rfl ?_
  refine w_p (pc1 := 110) rfl rfl ?_
  refine w_m0 (pc1 := 113) (st1 := .long 1685221232 :: _) rfl rfl rfl rfl ?_
  refine w_je (pc1 := 116) (vs := [.ref 176, .long 1685221232]) (rest := []) (st1 := [.int 0]) (m_205f (d := _) (sl := 0) ((wd_k (k := 17) M.2.1 (by decide) (by decide)).trans (decide_eq_false (by rw [hk]; decide)))) rfl rfl rfl (fun _ _ => rfl) rfl (by exact cl_v my_205 rfl rfl rfl (Nat.le_of_ble_eq_true rfl) rfl (MH_obj rfl rfl) rfl (by decide) rfl rfl) (by rfl) (Nat.le_of_ble_eq_true rfl) (Nat.le_of_ble_eq_true rfl) rfl (by rfl) ?_
  refine w_t (a := 126) (b := 119) rfl rfl rfl ?_
  refine w_p (pc1 := 127) rfl rfl ?_
  refine w_m0 (pc1 := 130) (st1 := .long 115923103347316 :: _) rfl rfl rfl rfl ?_
  refine w_je (pc1 := 133) (vs := [.ref 176, .long 115923103347316]) (rest := []) (st1 := [.int 0]) (m_205f (d := _) (sl := 0) ((wd_k (k := 18) M.2.1 (by decide) (by decide)).trans (decide_eq_false (by rw [hk]; decide)))) rfl rfl rfl (fun _ _ => rfl) rfl (by exact cl_v my_205 rfl rfl rfl (Nat.le_of_ble_eq_true rfl) rfl (MH_obj rfl rfl) rfl (by decide) rfl rfl) (by rfl) (Nat.le_of_ble_eq_true rfl) (Nat.le_of_ble_eq_true rfl) rfl (by rfl) ?_
  refine w_f (a := 156) (b := 136) rfl rfl rfl ?_
  refine w_p (pc1 := 137) rfl rfl ?_
  refine w_m0 (pc1 := 140) (st1 := .long 129125580895333 :: _) rfl rfl rfl rfl ?_
  refine w_je (pc1 := 143) (vs := [.ref 176, .long 129125580895333]) (rest := []) (st1 := [.int 0]) (m_205f (d := _) (sl := 0) ((wd_k (k := 41) M.2.1 (by decide) (by decide)).trans (decide_eq_false (by rw [hk]; decide)))) rfl rfl rfl (fun _ _ => rfl) rfl (by exact cl_v my_205 rfl rfl rfl (Nat.le_of_ble_eq_true rfl) rfl (MH_obj rfl rfl) rfl (by decide) rfl rfl) (by rfl) (Nat.le_of_ble_eq_true rfl) (Nat.le_of_ble_eq_true rfl) rfl (by rfl) ?_
  refine w_f (a := 156) (b := 146) rfl rfl rfl ?_
  refine w_p (pc1 := 147) rfl rfl ?_
  refine w_m0 (pc1 := 150) (st1 := .long 110386773062757 :: _) rfl rfl rfl rfl ?_
  refine w_je (pc1 := 153) (vs := [.ref 176, .long 110386773062757]) (rest := []) (st1 := [.int 0]) (m_205f (d := _) (sl := 0) ((wd_k (k := 15) M.2.1 (by decide) (by decide)).trans (decide_eq_false (by rw [hk]; decide)))) rfl rfl rfl (fun _ _ => rfl) rfl (by exact cl_v my_205 rfl rfl rfl (Nat.le_of_ble_eq_true rfl) rfl (MH_obj rfl rfl) rfl (by decide) rfl rfl) (by rfl) (Nat.le_of_ble_eq_true rfl) (Nat.le_of_ble_eq_true rfl) rfl (by rfl) ?_
  refine w_t (a := 170) (b := 156) rfl rfl rfl ?_
  refine w_p (pc1 := 171) rfl rfl ?_
  refine w_ji (pc1 := 174) (vs := [.ref 176]) (rest := []) (m_244_26 (d := _) M R hk) rfl rfl rfl (fun _ _ => rfl) rfl (by exact cl_v my_244 rfl rfl rfl (Nat.le_of_ble_eq_true rfl) rfl (MH_obj rfl rfl) rfl (by decide) rfl rfl) (by rfl) (Nat.le_of_ble_eq_true rfl) (Nat.le_of_ble_eq_true rfl) rfl (fun v h1 d1 hq => ?_) (fun _ _ _ e => e.elim)
  rcases hq with ⟨hv, ⟨C3, ⟨a3, i3, nl3, g1, g2, M3, H3, f3⟩, hh⟩, hn⟩ | ⟨hv, ⟨C3, ⟨c3, j3, g1, F3, f3⟩, hh⟩, hn⟩
  · subst hv; subst hh; subst hn
    exact Wd_up (by omega) (e174 (d := d) M3 g1 H3 (fX_W f3))
  · subst hv; subst hh; subst hn
    exact e174f F3 (PRS_f F3 g1 (fX_W f3))
set_option maxRecDepth 100000 in
theorem r65_n (M : MB B n C 0 none) (h37 : kd B n 0 ≠ 37) (h39 : kd B n 0 ≠ 39) (h17 : kd B n 0 ≠ 17) (h18 : kd B n 0 ≠ 18) (h41 : kd B n 0 ≠ 41) (h15 : kd B n 0 ≠ 15) (h10 : kd B n 0 ≠ 10) (h13 : kd B n 0 ≠ 13) (h8 : kd B n 0 ≠ 8) (h22 : kd B n 0 ≠ 22) (h20 : kd B n 0 ≠ 20) (h26 : kd B n 0 ≠ 26) : Wd L xs (d + 6) y_193 (65, [(0, .ref 176)], [], MH C t, 0) (PRS B n nN nN C t (.inl (2, 0) : pz_T (Unit × Nat × Option Nat)) (fun _ _ => True)) nX := by
  have F := FS_new (c := 2) M (by decide)
  refine w_p (pc1 := 66) rfl rfl ?_
  refine w_m0 (pc1 := 69) (st1 := .long 499850046565 :: _) rfl rfl rfl rfl ?_
  refine w_je (pc1 := 72) (vs := [.ref 176, .long 499850046565]) (rest := []) (st1 := [.int 0]) (m_205f (d := _) (sl := 0) ((wd_k (k := 37) M.2.1 (by decide) (by decide)).trans (decide_eq_false h37))) rfl rfl rfl (fun _ _ => rfl) rfl (by exact cl_v my_205 rfl rfl rfl (Nat.le_of_ble_eq_true rfl) rfl (MH_obj rfl rfl) rfl (by decide) rfl rfl) (by rfl) (Nat.le_of_ble_eq_true rfl) (Nat.le_of_ble_eq_true rfl) rfl (by rfl) ?_
  refine w_t (a := 87) (b := 75) rfl rfl rfl ?_
  refine w_p (pc1 := 88) rfl rfl ?_
  refine w_m0 (pc1 := 91) (st1 := .long 32776894330398066 :: _) rfl rfl rfl rfl ?_
  refine w_je (pc1 := 94) (vs := [.ref 176, .long 32776894330398066]) (rest := []) (st1 := [.int 0]) (m_205f (d := _) (sl := 0) ((wd_k (k := 39) M.2.1 (by decide) (by decide)).trans (decide_eq_false h39))) rfl rfl rfl (fun _ _ => rfl) rfl (by exact cl_v my_205 rfl rfl rfl (Nat.le_of_ble_eq_true rfl) rfl (MH_obj rfl rfl) rfl (by decide) rfl rfl) (by rfl) (Nat.le_of_ble_eq_true rfl) (Nat.le_of_ble_eq_true rfl) rfl (by rfl) ?_
  refine w_t (a := 109) (b := 97) rfl rfl rfl ?_
  refine w_p (pc1 := 110) rfl rfl ?_
  refine w_m0 (pc1 := 113) (st1 := .long 1685221232 :: _) rfl rfl rfl rfl ?_
  refine w_je (pc1 := 116) (vs := [.ref 176, .long 1685221232]) (rest := []) (st1 := [.int 0]) (m_205f (d := _) (sl := 0) ((wd_k (k := 17) M.2.1 (by decide) (by decide)).trans (decide_eq_false h17))) rfl rfl rfl (fun _ _ => rfl) rfl (by exact cl_v my_205 rfl rfl rfl (Nat.le_of_ble_eq_true rfl) rfl (MH_obj rfl rfl) rfl (by decide) rfl rfl) (by rfl) (Nat.le_of_ble_eq_true rfl) (Nat.le_of_ble_eq_true rfl) rfl (by rfl) ?_
  refine w_t (a := 126) (b := 119) rfl rfl rfl ?_
  refine w_p (pc1 := 127) rfl rfl ?_
  refine w_m0 (pc1 := 130) (st1 := .long 115923103347316 :: _) rfl rfl rfl rfl ?_
  refine w_je (pc1 := 133) (vs := [.ref 176, .long 115923103347316]) (rest := []) (st1 := [.int 0]) (m_205f (d := _) (sl := 0) ((wd_k (k := 18) M.2.1 (by decide) (by decide)).trans (decide_eq_false h18))) rfl rfl rfl (fun _ _ => rfl) rfl (by exact cl_v my_205 rfl rfl rfl (Nat.le_of_ble_eq_true rfl) rfl (MH_obj rfl rfl) rfl (by decide) rfl rfl) (by rfl) (Nat.le_of_ble_eq_true rfl) (Nat.le_of_ble_eq_true rfl) rfl (by rfl) ?_
  refine w_f (a := 156) (b := 136) rfl rfl rfl ?_
  refine w_p (pc1 := 137) rfl rfl ?_
  refine w_m0 (pc1 := 140) (st1 := .long 129125580895333 :: _) rfl rfl rfl rfl ?_
  refine w_je (pc1 := 143) (vs := [.ref 176, .long 129125580895333]) (rest := []) (st1 := [.int 0]) (m_205f (d := _) (sl := 0) ((wd_k (k := 41) M.2.1 (by decide) (by decide)).trans (decide_eq_false h41))) rfl rfl rfl (fun _ _ => rfl) rfl (by exact cl_v my_205 rfl rfl rfl (Nat.le_of_ble_eq_true rfl) rfl (MH_obj rfl rfl) rfl (by decide) rfl rfl) (by rfl) (Nat.le_of_ble_eq_true rfl) (Nat.le_of_ble_eq_true rfl) rfl (by rfl) ?_
  refine w_f (a := 156) (b := 146) rfl rfl rfl ?_
  refine w_p (pc1 := 147) rfl rfl ?_
  refine w_m0 (pc1 := 150) (st1 := .long 110386773062757 :: _) rfl rfl rfl rfl ?_
  refine w_je (pc1 := 153) (vs := [.ref 176, .long 110386773062757]) (rest := []) (st1 := [.int 0]) (m_205f (d := _) (sl := 0) ((wd_k (k := 15) M.2.1 (by decide) (by decide)).trans (decide_eq_false h15))) rfl rfl rfl (fun _ _ => rfl) rfl (by exact cl_v my_205 rfl rfl rfl (Nat.le_of_ble_eq_true rfl) rfl (MH_obj rfl rfl) rfl (by decide) rfl rfl) (by rfl) (Nat.le_of_ble_eq_true rfl) (Nat.le_of_ble_eq_true rfl) rfl (by rfl) ?_
  refine w_t (a := 170) (b := 156) rfl rfl rfl ?_
  refine w_p (pc1 := 171) rfl rfl ?_
  refine w_je (pc1 := 174) (vs := [.ref 176]) (rest := []) (st1 := []) (m_244_n (d := _) M h10 h13 h8 h22 h20 h26) rfl rfl rfl (fun _ _ => rfl) rfl (by exact cl_v my_244 rfl rfl rfl (Nat.le_of_ble_eq_true rfl) rfl (MH_obj rfl rfl) rfl (by decide) rfl rfl) (by rfl) (Nat.le_of_ble_eq_true rfl) (Nat.le_of_ble_eq_true rfl) rfl (by rfl) ?_
  exact e174f F (PRS_f F (flS_n rfl M.2.1.1) (fX_W (fW_T frT_f)))
/-! no statement at all -/
set_option maxRecDepth 100000 in
theorem m_193_n (T : tpM C B n) (N : NDM C ru tr) (h37 : kd B n 0 ≠ 37) (h39 : kd B n 0 ≠ 39) (h17 : kd B n 0 ≠ 17) (h18 : kd B n 0 ≠ 18) (h41 : kd B n 0 ≠ 41) (h15 : kd B n 0 ≠ 15) (h10 : kd B n 0 ≠ 10) (h13 : kd B n 0 ≠ 13) (h8 : kd B n 0 ≠ 8) (h22 : kd B n 0 ≠ 22) (h20 : kd B n 0 ≠ 20) (h26 : kd B n 0 ≠ 26) : Wd L xs (d + 6) y_193 (0, [(0, .ref 176)], [], MH C t, 0) (PRS B n nN nN C t (.inl (2, 0) : pz_T (Unit × Nat × Option Nat)) (fun _ _ => True)) nX := by
  refine m_193s T N (fun h1 C1 F D => ?_) (fun h1 C1 M D _ => Wd_q (r65_n M h37 h39 h17 h18 h41 h15 h10 h13 h8 h22 h20 h26) (PRS_b (fD_X D)) (fun _ _ _ e => e))
  exact PRS_f F (flS_1 ⟨2, rfl⟩ h1) (fD_X D)
end MSR2
