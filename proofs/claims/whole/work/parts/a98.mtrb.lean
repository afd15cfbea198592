
/-! THE OTHER SIDE READS STATEMENTS, 13: a trigger, its beginning -/
section MSI
variable {L : Nat} {xs : Nat → Int32} {B : Nat → Nat} {n : Nat} {C C' C0 C1 : co_T} {t : ab_H} {d i i0 i1 j b e p k w q : Nat} {U V : Nat → Prop} {c : Int32} {sc : sc_T} {row : Option Nat} {tg : Option (Nat × Nat)} {nl : Option Nat} {E : fe_T} {tr : Nat → Option tr_T}
variable {g ti a : Nat} {nm : Int64}
def TB0 (C : co_T) (g : Nat) (nm : Int64) (a : Nat) : Prop := C.2.1 96 g = nm ∧ C.1 76 60 = nI g ∧ C.1 76 43 = nI a ∧ C.1 76 42 = 0
set_option maxRecDepth 100000 in
theorem TB0_T (H : TB0 C g nm a) (f : frT C C') : TB0 C' g nm a := ⟨(f.2.1 96 g (by omega)).trans H.1, (f.1 76 60 (by omega)).trans H.2.1, (f.1 76 43 (by omega)).trans H.2.2.1, (f.1 76 42 (by omega)).trans H.2.2.2⟩
set_option maxRecDepth 100000 in
theorem TB0_1 {v : Int32} (H : TB0 C g nm a) (hk : k ≠ 76) : TB0 (sI C k j v) g nm a := ⟨H.1, by rw [sI_1, if_neg (by omega)]; exact H.2.1, by rw [sI_1, if_neg (by omega)]; exact H.2.2.1, by rw [sI_1, if_neg (by omega)]; exact H.2.2.2⟩
/-! nodes are counted from here on -/
set_option maxRecDepth 100000 in
theorem MS_k (M : MS B n U V C0 C i none) (h43 : C.1 76 43 = nI a) (h42 : C.1 76 42 = 0) (ha : a + k = 400) : MS B n U V C0 (sI C 76 44 1) i (some k) := by
  obtain ⟨T, R, hl, ho, hi, hf⟩ := M
  have e : ∀ q, q ≠ 44 → (sI C 76 44 1).1 76 q = C.1 76 q := fun q hq => by rw [sI_1, if_neg (by omega)]
  exact ⟨tpM_of T (e 2 (by omega)) (fun j => by rw [sI_1, if_neg (by omega)]), ⟨R.1, (e 8 (by omega)).trans R.2.1, (e 4 (by omega)).trans R.2.2.1, R.2.2.2.1, (e 5 (by omega)).trans R.2.2.2.2.1, (e 6 (by omega)).trans R.2.2.2.2.2⟩, ⟨by rw [sI_1, if_pos ⟨rfl, rfl⟩], a, 0, (e 43 (by omega)).trans h43, (e 42 (by omega)).trans h42, by omega⟩, ⟨(e 45 (by omega)).trans ho.1, (e 52 (by omega)).trans ho.2⟩, hi, fSy_t hf (fSy_I (sx_76 (by omega)))⟩
def rT3 (K : tv2) (sc : sc_T) (nm : Int64) (ti ev i : Nat) (nl : Option Nat) : pz_T (tr_T × Nat × Option Nat) := pb (xpP K 29 i) (fun j => pb (rTab K sc j) (fun tb => rTr2 K sc nm (tb.1, ev) ti tb.2 nl))
set_option maxRecDepth 100000 in
theorem bd_tr2 {pp : Nat × Nat} (h : kd B n i = 1) : bdS (rTr2 (tkP B n) sc nm pp ti i nl) i := by
  unfold rTr2
  have hx : rWhn (tkP B n) sc pp i nl = .inr (none, i, nl) := if_neg (by show ¬ kd B n i = 42; rw [h]; decide)
  rw [pb_r hx]
  exact bd_tr3 (x := (none, i, nl)) h
set_option maxRecDepth 100000 in
theorem g_243_0 (hg : g < 8) (hU : U (32 + g)) (hU2 : U (24 + g)) (M : MS B n U V C0 C i none) (S : SCM C sc) (H0 : TB0 C g nm a) (ha : a + k = 400) (h98 : C.1 98 g = nI ti) (h99 : C.1 99 g = 0) (hti : ti < 2) : Wd L xs (d + 12) y_236 (243, [(1, .int (nI g)), (0, .ref 176)], [], MH C t, 0) (PTG B n U V C0 t g (rT3 (tkP B n) sc nm ti 0 i (some k))) nX := by
  unfold rT3
  refine w_p (pc1 := 244) rfl rfl ?_
  refine w_m0 (pc1 := 247) (st1 := .long 28526 :: _) rfl rfl rfl rfl ?_
  refine w_ji (pc1 := 250) (vs := [.ref 176, .long 28526]) (rest := []) (m_219 (k := 29) (d := _) (by decide) (by decide) rfl M) rfl rfl rfl (fun _ _ => rfl) rfl (by exact cl_v my_219 rfl rfl rfl (Nat.le_of_ble_eq_true rfl) rfl (MH_obj rfl rfl) rfl (by decide) rfl rfl) (by rfl) (Nat.le_of_ble_eq_true rfl) (Nat.le_of_ble_eq_true rfl) rfl (fun v h1 d1 hq => ?_) (fun _ _ _ e => e.elim)
  rcases hq with ⟨hv, ⟨C1, ⟨g1, g2, M1, f1⟩, hh⟩, hn⟩ | ⟨hv, ⟨C1, ⟨c1, j1, g1, F1, f1⟩, hh⟩, hn⟩
  · subst hv; subst hh; subst hn
    refine w_p (pc1 := 251) rfl rfl ?_
    refine w_m0 (pc1 := 254) rfl rfl (h_gC rfl rfl rfl rfl) rfl ?_
    refine w_p (pc1 := 255) rfl rfl ?_
    refine w_p (pc1 := 256) rfl rfl ?_
    refine w_m0 (pc1 := 259) rfl rfl (h_gI (j := 8) rfl rfl rfl rfl rfl) rfl ?_
    refine w_f (a := 269) (b := 262) (cb_ne_f (by exact M1.2.1.2.1)) rfl rfl ?_
    refine w_p (pc1 := 263) rfl rfl ?_
    refine w_ji (pc1 := 266) (vs := [.ref 176]) (rest := [.int (nI (g)), .ref 197]) (m_238 (d := _) M1 (SCM_T S f1)) rfl rfl rfl (fun _ _ => rfl) rfl (by exact cl_v my_238 rfl rfl rfl (Nat.le_of_ble_eq_true rfl) rfl (MH_obj rfl rfl) rfl (by decide) rfl rfl) (by rfl) (Nat.le_of_ble_eq_true rfl) (Nat.le_of_ble_eq_true rfl) rfl (fun v h1 d1 hq => ?_) (fun _ _ _ e => e.elim)
    rcases hq with ⟨b, hv, ⟨C2, ⟨g3, g4, g5, M2, f2⟩, hh⟩, hn⟩ | ⟨b, hv, ⟨C2, ⟨c2, j2, g3, F2, f2⟩, hh⟩, hn⟩
    · subst hv; subst hh; subst hn
      refine w_p (pc1 := 270) rfl rfl ?_
      refine w_m0 (pc1 := 271) rfl rfl (n_is (e := g) rfl rfl rfl (by omega)) rfl ?_
      refine w_p (pc1 := 272) rfl rfl ?_
      refine w_p (pc1 := 273) (st1 := .int 1 :: _) rfl rfl ?_
      refine w_m0 (pc1 := 276) rfl rfl (h_pI (j := 44) rfl rfl rfl rfl rfl rfl rfl ⟨rfl, rfl⟩ rfl) rfl ?_
      refine w_p (pc1 := 277) rfl rfl ?_
      refine w_p (pc1 := 278) rfl rfl ?_
      refine w_m0 (pc1 := 281) rfl rfl (h_gC rfl rfl rfl rfl) rfl ?_
      refine w_p (pc1 := 282) rfl rfl ?_
      refine w_m0 (pc1 := 283) (st1 := .int (nI (b)) :: _) rfl rfl (n_ile (e := g) rfl rfl rfl (by omega) (by rw [sI_1, if_neg (by omega), sI_1, if_pos ⟨rfl, rfl⟩])) rfl ?_
      refine w_m0 (pc1 := 286) rfl rfl (h_pI (j := 47) rfl rfl rfl rfl rfl rfl rfl ⟨rfl, rfl⟩ rfl) rfl ?_
      refine w_p (pc1 := 287) rfl rfl ?_
      refine w_p (pc1 := 288) rfl rfl ?_
      refine w_m0 (pc1 := 291) rfl rfl (h_gC rfl rfl rfl rfl) rfl ?_
      refine w_p (pc1 := 292) rfl rfl ?_
      refine w_m0 (pc1 := 293) (st1 := .int 0 :: _) rfl rfl (n_ile (e := g) rfl rfl rfl (by omega) (by rw [sI_1, if_neg (by omega), sI_1, if_neg (by omega), sI_1, if_neg (by omega), f2.1 99 g (by omega), f1.1 99 g (by omega)]; exact h99)) rfl ?_
      refine w_p (pc1 := 294) (st1 := .int 2 :: _) rfl rfl ?_
      refine w_f (a := 301) (b := 297) rfl rfl rfl ?_
      refine w_p (pc1 := 298) (st1 := .int 1 :: _) rfl rfl ?_
      refine w_p (pc1 := 302) rfl rfl ?_
      refine w_m0 (pc1 := 305) rfl rfl (h_pI (j := 48) rfl rfl rfl rfl rfl rfl rfl ⟨rfl, rfl⟩ rfl) rfl ?_
      refine w_p (pc1 := 306) rfl rfl ?_
      refine w_p (pc1 := 307) rfl rfl ?_
      refine w_m0 (pc1 := 310) rfl rfl (h_gC rfl rfl rfl rfl) rfl ?_
      refine w_p (pc1 := 311) rfl rfl ?_
      refine w_m0 (pc1 := 312) (st1 := .int 0 :: _) rfl rfl (n_ile (e := g) rfl rfl rfl (by omega) (by rw [sI_1, if_neg (by omega), sI_1, if_neg (by omega), sI_1, if_neg (by omega), sI_1, if_neg (by omega), f2.1 99 g (by omega), f1.1 99 g (by omega)]; exact h99)) rfl ?_
      refine w_t (a := 319) (b := 315) rfl rfl rfl ?_
      refine w_p (pc1 := 320) (st1 := .int 0 :: _) rfl rfl ?_
      refine w_m0 (pc1 := 323) rfl rfl (h_pI (j := 49) rfl rfl rfl rfl rfl rfl rfl ⟨rfl, rfl⟩ rfl) rfl ?_
      refine w_p (pc1 := 324) rfl rfl ?_
      refine w_p (pc1 := 325) (st1 := .int (-1) :: _) rfl rfl ?_
      refine w_m0 (pc1 := 328) rfl rfl (h_pI (j := 46) rfl rfl rfl rfl rfl rfl rfl ⟨rfl, rfl⟩ rfl) rfl ?_
      rw [pb_r (show xpP (tkP B n) 29 i = .inr (i + 1) from if_pos g1), pb_r g3]
      have H2 := TB0_T (TB0_T H0 f1) f2
      have S2 := SCM_T (SCM_T S f1) f2
      have e0 : ∀ q j, q ≠ 76 → q ≠ 97 → (sI (sI (sI (sI (sI (sI C2 97 g (nI b)) 76 44 1) 76 47 (nI b)) 76 48 1) 76 49 0) 76 46 (-1)).1 q j = C2.1 q j := fun q j h1 h2 => by rw [sI_1, if_neg (by omega), sI_1, if_neg (by omega), sI_1, if_neg (by omega), sI_1, if_neg (by omega), sI_1, if_neg (by omega), sI_1, if_neg (by omega)]
      have M3 := MS_k (MS_I (v := nI b) M2 (sx_g (g := g) (k := 97) hU (by omega)) (by omega)) (a := a) (k := k) (by rw [sI_1, if_neg (by omega)]; exact H2.2.2.1) (by rw [sI_1, if_neg (by omega)]; exact H2.2.2.2) ha
      have S3 : SCM (sI (sI (sI (sI (sI (sI C2 97 g (nI b)) 76 44 1) 76 47 (nI b)) 76 48 1) 76 49 0) 76 46 (-1)) sc := fun q hq => ⟨(e0 78 q (by omega) (by omega)).trans (S2 q hq).1, fun hz => ⟨((S2 q hq).2 hz).1, (e0 80 q (by omega) (by omega)).trans ((S2 q hq).2 hz).2.1, ((S2 q hq).2 hz).2.2⟩⟩
      have T3 := TBM_S S3 g4.1 g4.2
      have r8 : (sI (sI (sI (sI (sI (sI C2 97 g (nI b)) 76 44 1) 76 47 (nI b)) 76 48 1) 76 49 0) 76 46 (-1)).1 76 48 = 1 := by rw [sI_1, if_neg (by omega), sI_1, if_neg (by omega), sI_1, if_pos ⟨rfl, rfl⟩]
      have r9 : (sI (sI (sI (sI (sI (sI C2 97 g (nI b)) 76 44 1) 76 47 (nI b)) 76 48 1) 76 49 0) 76 46 (-1)).1 76 49 = 0 := by rw [sI_1, if_neg (by omega), sI_1, if_pos ⟨rfl, rfl⟩]
      refine g_328 (pp := (b, 0)) hg hU hU2 (MS_I (MS_I (MS_I (MS_I M3 (sx_76 (by omega)) (by omega)) (sx_76 (by omega)) (by omega)) (sx_76 (by omega)) (by omega)) (sx_76 (by omega)) (by omega)) ⟨?_, ?_, ⟨?_, ?_⟩, fun q e => ?_, fun q e => ?_⟩ S3 ⟨?_, ?_, ?_, H2.1⟩ ?_ hti (by show 0 < 3; decide)
      · rw [sI_1, if_pos ⟨rfl, rfl⟩]
        rfl
      · rw [sI_1, if_neg (by omega), sI_1, if_neg (by omega), sI_1, if_neg (by omega), sI_1, if_pos ⟨rfl, rfl⟩]
        rfl
      · rw [r8]
        decide
      · rw [r9]
        decide
      · cases e
      · cases e
        rw [r8, r9]
        exact ⟨T3, (by show (1 : Int32) = 1 ↔ 0 ≠ 2; decide), (by show (0 : Int32) = 1 ↔ 0 ≠ 0; decide)⟩
      · rw [sI_1, if_neg (by omega), sI_1, if_neg (by omega), sI_1, if_neg (by omega), sI_1, if_neg (by omega), sI_1, if_neg (by omega), sI_1, if_pos ⟨rfl, rfl⟩]
      · rw [e0 98 g (by omega) (by omega), f2.1 98 g (by omega), f1.1 98 g (by omega)]
        exact h98
      · rw [e0 99 g (by omega) (by omega), f2.1 99 g (by omega), f1.1 99 g (by omega), h99]
        rfl
      · rw [sI_1, if_neg (by omega), sI_1, if_neg (by omega), sI_1, if_neg (by omega), sI_1, if_neg (by omega), sI_1, if_neg (by omega), sI_1, if_neg (by omega)]
        exact H2.2.1
    · subst hv; subst hh; subst hn
      refine w_p (pc1 := 270) rfl rfl ?_
      refine fz_270 hg hU F2 (fun C9 F9 => Or.inr ⟨rfl, ⟨_, ⟨c2, j2, ?_, F9⟩, rfl⟩, rfl⟩)
      rw [pb_r (show xpP (tkP B n) 29 i = .inr (i + 1) from if_pos g1)]
      exact flS_b g3 (fun q _ hk => bd_tr2 hk)
  · subst hv; subst hh; subst hn
    refine fz_250 hg hU F1 (fun C9 F9 => Or.inr ⟨rfl, ⟨_, ⟨c1, j1, flS_b g1 (fun q hq hk => ?_), F9⟩, rfl⟩, rfl⟩)
    obtain ⟨_, rfl⟩ := xpP_s hq
    exact bdS_b (bdS_t hk)
set_option maxRecDepth 100000 in
theorem g_243_1 (hg : g < 8) (hU : U (32 + g)) (hU2 : U (24 + g)) (M : MS B n U V C0 C i none) (S : SCM C sc) (H0 : TB0 C g nm a) (ha : a + k = 400) (h98 : C.1 98 g = nI ti) (h99 : C.1 99 g = 1) (hti : ti < 2) : Wd L xs (d + 12) y_236 (243, [(1, .int (nI g)), (0, .ref 176)], [], MH C t, 0) (PTG B n U V C0 t g (rT3 (tkP B n) sc nm ti 1 i (some k))) nX := by
  unfold rT3
  refine w_p (pc1 := 244) rfl rfl ?_
  refine w_m0 (pc1 := 247) (st1 := .long 28526 :: _) rfl rfl rfl rfl ?_
  refine w_ji (pc1 := 250) (vs := [.ref 176, .long 28526]) (rest := []) (m_219 (k := 29) (d := _) (by decide) (by decide) rfl M) rfl rfl rfl (fun _ _ => rfl) rfl (by exact cl_v my_219 rfl rfl rfl (Nat.le_of_ble_eq_true rfl) rfl (MH_obj rfl rfl) rfl (by decide) rfl rfl) (by rfl) (Nat.le_of_ble_eq_true rfl) (Nat.le_of_ble_eq_true rfl) rfl (fun v h1 d1 hq => ?_) (fun _ _ _ e => e.elim)
  rcases hq with ⟨hv, ⟨C1, ⟨g1, g2, M1, f1⟩, hh⟩, hn⟩ | ⟨hv, ⟨C1, ⟨c1, j1, g1, F1, f1⟩, hh⟩, hn⟩
  · subst hv; subst hh; subst hn
    refine w_p (pc1 := 251) rfl rfl ?_
    refine w_m0 (pc1 := 254) rfl rfl (h_gC rfl rfl rfl rfl) rfl ?_
    refine w_p (pc1 := 255) rfl rfl ?_
    refine w_p (pc1 := 256) rfl rfl ?_
    refine w_m0 (pc1 := 259) rfl rfl (h_gI (j := 8) rfl rfl rfl rfl rfl) rfl ?_
    refine w_f (a := 269) (b := 262) (cb_ne_f (by exact M1.2.1.2.1)) rfl rfl ?_
    refine w_p (pc1 := 263) rfl rfl ?_
    refine w_ji (pc1 := 266) (vs := [.ref 176]) (rest := [.int (nI (g)), .ref 197]) (m_238 (d := _) M1 (SCM_T S f1)) rfl rfl rfl (fun _ _ => rfl) rfl (by exact cl_v my_238 rfl rfl rfl (Nat.le_of_ble_eq_true rfl) rfl (MH_obj rfl rfl) rfl (by decide) rfl rfl) (by rfl) (Nat.le_of_ble_eq_true rfl) (Nat.le_of_ble_eq_true rfl) rfl (fun v h1 d1 hq => ?_) (fun _ _ _ e => e.elim)
    rcases hq with ⟨b, hv, ⟨C2, ⟨g3, g4, g5, M2, f2⟩, hh⟩, hn⟩ | ⟨b, hv, ⟨C2, ⟨c2, j2, g3, F2, f2⟩, hh⟩, hn⟩
    · subst hv; subst hh; subst hn
      refine w_p (pc1 := 270) rfl rfl ?_
      refine w_m0 (pc1 := 271) rfl rfl (n_is (e := g) rfl rfl rfl (by omega)) rfl ?_
      refine w_p (pc1 := 272) rfl rfl ?_
      refine w_p (pc1 := 273) (st1 := .int 1 :: _) rfl rfl ?_
      refine w_m0 (pc1 := 276) rfl rfl (h_pI (j := 44) rfl rfl rfl rfl rfl rfl rfl ⟨rfl, rfl⟩ rfl) rfl ?_
      refine w_p (pc1 := 277) rfl rfl ?_
      refine w_p (pc1 := 278) rfl rfl ?_
      refine w_m0 (pc1 := 281) rfl rfl (h_gC rfl rfl rfl rfl) rfl ?_
      refine w_p (pc1 := 282) rfl rfl ?_
      refine w_m0 (pc1 := 283) (st1 := .int (nI (b)) :: _) rfl rfl (n_ile (e := g) rfl rfl rfl (by omega) (by rw [sI_1, if_neg (by omega), sI_1, if_pos ⟨rfl, rfl⟩])) rfl ?_
      refine w_m0 (pc1 := 286) rfl rfl (h_pI (j := 47) rfl rfl rfl rfl rfl rfl rfl ⟨rfl, rfl⟩ rfl) rfl ?_
      refine w_p (pc1 := 287) rfl rfl ?_
      refine w_p (pc1 := 288) rfl rfl ?_
      refine w_m0 (pc1 := 291) rfl rfl (h_gC rfl rfl rfl rfl) rfl ?_
      refine w_p (pc1 := 292) rfl rfl ?_
      refine w_m0 (pc1 := 293) (st1 := .int 1 :: _) rfl rfl (n_ile (e := g) rfl rfl rfl (by omega) (by rw [sI_1, if_neg (by omega), sI_1, if_neg (by omega), sI_1, if_neg (by omega), f2.1 99 g (by omega), f1.1 99 g (by omega)]; exact h99)) rfl ?_
      refine w_p (pc1 := 294) (st1 := .int 2 :: _) rfl rfl ?_
      refine w_f (a := 301) (b := 297) rfl rfl rfl ?_
      refine w_p (pc1 := 298) (st1 := .int 1 :: _) rfl rfl ?_
      refine w_p (pc1 := 302) rfl rfl ?_
      refine w_m0 (pc1 := 305) rfl rfl (h_pI (j := 48) rfl rfl rfl rfl rfl rfl rfl ⟨rfl, rfl⟩ rfl) rfl ?_
      refine w_p (pc1 := 306) rfl rfl ?_
      refine w_p (pc1 := 307) rfl rfl ?_
      refine w_m0 (pc1 := 310) rfl rfl (h_gC rfl rfl rfl rfl) rfl ?_
      refine w_p (pc1 := 311) rfl rfl ?_
      refine w_m0 (pc1 := 312) (st1 := .int 1 :: _) rfl rfl (n_ile (e := g) rfl rfl rfl (by omega) (by rw [sI_1, if_neg (by omega), sI_1, if_neg (by omega), sI_1, if_neg (by omega), sI_1, if_neg (by omega), f2.1 99 g (by omega), f1.1 99 g (by omega)]; exact h99)) rfl ?_
      refine w_f (a := 319) (b := 315) rfl rfl rfl ?_
      refine w_p (pc1 := 316) (st1 := .int 1 :: _) rfl rfl ?_
      refine w_p (pc1 := 320) rfl rfl ?_
      refine w_m0 (pc1 := 323) rfl rfl (h_pI (j := 49) rfl rfl rfl rfl rfl rfl rfl ⟨rfl, rfl⟩ rfl) rfl ?_
      refine w_p (pc1 := 324) rfl rfl ?_
      refine w_p (pc1 := 325) (st1 := .int (-1) :: _) rfl rfl ?_
      refine w_m0 (pc1 := 328) rfl rfl (h_pI (j := 46) rfl rfl rfl rfl rfl rfl rfl ⟨rfl, rfl⟩ rfl) rfl ?_
      rw [pb_r (show xpP (tkP B n) 29 i = .inr (i + 1) from if_pos g1), pb_r g3]
      have H2 := TB0_T (TB0_T H0 f1) f2
      have S2 := SCM_T (SCM_T S f1) f2
      have e0 : ∀ q j, q ≠ 76 → q ≠ 97 → (sI (sI (sI (sI (sI (sI C2 97 g (nI b)) 76 44 1) 76 47 (nI b)) 76 48 1) 76 49 1) 76 46 (-1)).1 q j = C2.1 q j := fun q j h1 h2 => by rw [sI_1, if_neg (by omega), sI_1, if_neg (by omega), sI_1, if_neg (by omega), sI_1, if_neg (by omega), sI_1, if_neg (by omega), sI_1, if_neg (by omega)]
      have M3 := MS_k (MS_I (v := nI b) M2 (sx_g (g := g) (k := 97) hU (by omega)) (by omega)) (a := a) (k := k) (by rw [sI_1, if_neg (by omega)]; exact H2.2.2.1) (by rw [sI_1, if_neg (by omega)]; exact H2.2.2.2) ha
      have S3 : SCM (sI (sI (sI (sI (sI (sI C2 97 g (nI b)) 76 44 1) 76 47 (nI b)) 76 48 1) 76 49 1) 76 46 (-1)) sc := fun q hq => ⟨(e0 78 q (by omega) (by omega)).trans (S2 q hq).1, fun hz => ⟨((S2 q hq).2 hz).1, (e0 80 q (by omega) (by omega)).trans ((S2 q hq).2 hz).2.1, ((S2 q hq).2 hz).2.2⟩⟩
      have T3 := TBM_S S3 g4.1 g4.2
      have r8 : (sI (sI (sI (sI (sI (sI C2 97 g (nI b)) 76 44 1) 76 47 (nI b)) 76 48 1) 76 49 1) 76 46 (-1)).1 76 48 = 1 := by rw [sI_1, if_neg (by omega), sI_1, if_neg (by omega), sI_1, if_pos ⟨rfl, rfl⟩]
      have r9 : (sI (sI (sI (sI (sI (sI C2 97 g (nI b)) 76 44 1) 76 47 (nI b)) 76 48 1) 76 49 1) 76 46 (-1)).1 76 49 = 1 := by rw [sI_1, if_neg (by omega), sI_1, if_pos ⟨rfl, rfl⟩]
      refine g_328 (pp := (b, 1)) hg hU hU2 (MS_I (MS_I (MS_I (MS_I M3 (sx_76 (by omega)) (by omega)) (sx_76 (by omega)) (by omega)) (sx_76 (by omega)) (by omega)) (sx_76 (by omega)) (by omega)) ⟨?_, ?_, ⟨?_, ?_⟩, fun q e => ?_, fun q e => ?_⟩ S3 ⟨?_, ?_, ?_, H2.1⟩ ?_ hti (by show 1 < 3; decide)
      · rw [sI_1, if_pos ⟨rfl, rfl⟩]
        rfl
      · rw [sI_1, if_neg (by omega), sI_1, if_neg (by omega), sI_1, if_neg (by omega), sI_1, if_pos ⟨rfl, rfl⟩]
        rfl
      · rw [r8]
        decide
      · rw [r9]
        decide
      · cases e
      · cases e
        rw [r8, r9]
        exact ⟨T3, (by show (1 : Int32) = 1 ↔ 1 ≠ 2; decide), (by show (1 : Int32) = 1 ↔ 1 ≠ 0; decide)⟩
      · rw [sI_1, if_neg (by omega), sI_1, if_neg (by omega), sI_1, if_neg (by omega), sI_1, if_neg (by omega), sI_1, if_neg (by omega), sI_1, if_pos ⟨rfl, rfl⟩]
      · rw [e0 98 g (by omega) (by omega), f2.1 98 g (by omega), f1.1 98 g (by omega)]
        exact h98
      · rw [e0 99 g (by omega) (by omega), f2.1 99 g (by omega), f1.1 99 g (by omega), h99]
        rfl
      · rw [sI_1, if_neg (by omega), sI_1, if_neg (by omega), sI_1, if_neg (by omega), sI_1, if_neg (by omega), sI_1, if_neg (by omega), sI_1, if_neg (by omega)]
        exact H2.2.1
    · subst hv; subst hh; subst hn
      refine w_p (pc1 := 270) rfl rfl ?_
      refine fz_270 hg hU F2 (fun C9 F9 => Or.inr ⟨rfl, ⟨_, ⟨c2, j2, ?_, F9⟩, rfl⟩, rfl⟩)
      rw [pb_r (show xpP (tkP B n) 29 i = .inr (i + 1) from if_pos g1)]
      exact flS_b g3 (fun q _ hk => bd_tr2 hk)
  · subst hv; subst hh; subst hn
    refine fz_250 hg hU F1 (fun C9 F9 => Or.inr ⟨rfl, ⟨_, ⟨c1, j1, flS_b g1 (fun q hq hk => ?_), F9⟩, rfl⟩, rfl⟩)
    obtain ⟨_, rfl⟩ := xpP_s hq
    exact bdS_b (bdS_t hk)
set_option maxRecDepth 100000 in
theorem g_243_2 (hg : g < 8) (hU : U (32 + g)) (hU2 : U (24 + g)) (M : MS B n U V C0 C i none) (S : SCM C sc) (H0 : TB0 C g nm a) (ha : a + k = 400) (h98 : C.1 98 g = nI ti) (h99 : C.1 99 g = 2) (hti : ti < 2) : Wd L xs (d + 12) y_236 (243, [(1, .int (nI g)), (0, .ref 176)], [], MH C t, 0) (PTG B n U V C0 t g (rT3 (tkP B n) sc nm ti 2 i (some k))) nX := by
  unfold rT3
  refine w_p (pc1 := 244) rfl rfl ?_
  refine w_m0 (pc1 := 247) (st1 := .long 28526 :: _) rfl rfl rfl rfl ?_
  refine w_ji (pc1 := 250) (vs := [.ref 176, .long 28526]) (rest := []) (m_219 (k := 29) (d := _) (by decide) (by decide) rfl M) rfl rfl rfl (fun _ _ => rfl) rfl (by exact cl_v my_219 rfl rfl rfl (Nat.le_of_ble_eq_true rfl) rfl (MH_obj rfl rfl) rfl (by decide) rfl rfl) (by rfl) (Nat.le_of_ble_eq_true rfl) (Nat.le_of_ble_eq_true rfl) rfl (fun v h1 d1 hq => ?_) (fun _ _ _ e => e.elim)
  rcases hq with ⟨hv, ⟨C1, ⟨g1, g2, M1, f1⟩, hh⟩, hn⟩ | ⟨hv, ⟨C1, ⟨c1, j1, g1, F1, f1⟩, hh⟩, hn⟩
  · subst hv; subst hh; subst hn
    refine w_p (pc1 := 251) rfl rfl ?_
    refine w_m0 (pc1 := 254) rfl rfl (h_gC rfl rfl rfl rfl) rfl ?_
    refine w_p (pc1 := 255) rfl rfl ?_
    refine w_p (pc1 := 256) rfl rfl ?_
    refine w_m0 (pc1 := 259) rfl rfl (h_gI (j := 8) rfl rfl rfl rfl rfl) rfl ?_
    refine w_f (a := 269) (b := 262) (cb_ne_f (by exact M1.2.1.2.1)) rfl rfl ?_
    refine w_p (pc1 := 263) rfl rfl ?_
    refine w_ji (pc1 := 266) (vs := [.ref 176]) (rest := [.int (nI (g)), .ref 197]) (m_238 (d := _) M1 (SCM_T S f1)) rfl rfl rfl (fun _ _ => rfl) rfl (by exact cl_v my_238 rfl rfl rfl (Nat.le_of_ble_eq_true rfl) rfl (MH_obj rfl rfl) rfl (by decide) rfl rfl) (by rfl) (Nat.le_of_ble_eq_true rfl) (Nat.le_of_ble_eq_true rfl) rfl (fun v h1 d1 hq => ?_) (fun _ _ _ e => e.elim)
    rcases hq with ⟨b, hv, ⟨C2, ⟨g3, g4, g5, M2, f2⟩, hh⟩, hn⟩ | ⟨b, hv, ⟨C2, ⟨c2, j2, g3, F2, f2⟩, hh⟩, hn⟩
    · subst hv; subst hh; subst hn
      refine w_p (pc1 := 270) rfl rfl ?_
      refine w_m0 (pc1 := 271) rfl rfl (n_is (e := g) rfl rfl rfl (by omega)) rfl ?_
      refine w_p (pc1 := 272) rfl rfl ?_
      refine w_p (pc1 := 273) (st1 := .int 1 :: _) rfl rfl ?_
      refine w_m0 (pc1 := 276) rfl rfl (h_pI (j := 44) rfl rfl rfl rfl rfl rfl rfl ⟨rfl, rfl⟩ rfl) rfl ?_
      refine w_p (pc1 := 277) rfl rfl ?_
      refine w_p (pc1 := 278) rfl rfl ?_
      refine w_m0 (pc1 := 281) rfl rfl (h_gC rfl rfl rfl rfl) rfl ?_
      refine w_p (pc1 := 282) rfl rfl ?_
      refine w_m0 (pc1 := 283) (st1 := .int (nI (b)) :: _) rfl rfl (n_ile (e := g) rfl rfl rfl (by omega) (by rw [sI_1, if_neg (by omega), sI_1, if_pos ⟨rfl, rfl⟩])) rfl ?_
      refine w_m0 (pc1 := 286) rfl rfl (h_pI (j := 47) rfl rfl rfl rfl rfl rfl rfl ⟨rfl, rfl⟩ rfl) rfl ?_
      refine w_p (pc1 := 287) rfl rfl ?_
      refine w_p (pc1 := 288) rfl rfl ?_
      refine w_m0 (pc1 := 291) rfl rfl (h_gC rfl rfl rfl rfl) rfl ?_
      refine w_p (pc1 := 292) rfl rfl ?_
      refine w_m0 (pc1 := 293) (st1 := .int 2 :: _) rfl rfl (n_ile (e := g) rfl rfl rfl (by omega) (by rw [sI_1, if_neg (by omega), sI_1, if_neg (by omega), sI_1, if_neg (by omega), f2.1 99 g (by omega), f1.1 99 g (by omega)]; exact h99)) rfl ?_
      refine w_p (pc1 := 294) (st1 := .int 2 :: _) rfl rfl ?_
      refine w_t (a := 301) (b := 297) rfl rfl rfl ?_
      refine w_p (pc1 := 302) (st1 := .int 0 :: _) rfl rfl ?_
      refine w_m0 (pc1 := 305) rfl rfl (h_pI (j := 48) rfl rfl rfl rfl rfl rfl rfl ⟨rfl, rfl⟩ rfl) rfl ?_
      refine w_p (pc1 := 306) rfl rfl ?_
      refine w_p (pc1 := 307) rfl rfl ?_
      refine w_m0 (pc1 := 310) rfl rfl (h_gC rfl rfl rfl rfl) rfl ?_
      refine w_p (pc1 := 311) rfl rfl ?_
      refine w_m0 (pc1 := 312) (st1 := .int 2 :: _) rfl rfl (n_ile (e := g) rfl rfl rfl (by omega) (by rw [sI_1, if_neg (by omega), sI_1, if_neg (by omega), sI_1, if_neg (by omega), sI_1, if_neg (by omega), f2.1 99 g (by omega), f1.1 99 g (by omega)]; exact h99)) rfl ?_
      refine w_f (a := 319) (b := 315) rfl rfl rfl ?_
      refine w_p (pc1 := 316) (st1 := .int 1 :: _) rfl rfl ?_
      refine w_p (pc1 := 320) rfl rfl ?_
      refine w_m0 (pc1 := 323) rfl rfl (h_pI (j := 49) rfl rfl rfl rfl rfl rfl rfl ⟨rfl, rfl⟩ rfl) rfl ?_
      refine w_p (pc1 := 324) rfl rfl ?_
      refine w_p (pc1 := 325) (st1 := .int (-1) :: _) rfl rfl ?_
      refine w_m0 (pc1 := 328) rfl rfl (h_pI (j := 46) rfl rfl rfl rfl rfl rfl rfl ⟨rfl, rfl⟩ rfl) rfl ?_
      rw [pb_r (show xpP (tkP B n) 29 i = .inr (i + 1) from if_pos g1), pb_r g3]
      have H2 := TB0_T (TB0_T H0 f1) f2
      have S2 := SCM_T (SCM_T S f1) f2
      have e0 : ∀ q j, q ≠ 76 → q ≠ 97 → (sI (sI (sI (sI (sI (sI C2 97 g (nI b)) 76 44 1) 76 47 (nI b)) 76 48 0) 76 49 1) 76 46 (-1)).1 q j = C2.1 q j := fun q j h1 h2 => by rw [sI_1, if_neg (by omega), sI_1, if_neg (by omega), sI_1, if_neg (by omega), sI_1, if_neg (by omega), sI_1, if_neg (by omega), sI_1, if_neg (by omega)]
      have M3 := MS_k (MS_I (v := nI b) M2 (sx_g (g := g) (k := 97) hU (by omega)) (by omega)) (a := a) (k := k) (by rw [sI_1, if_neg (by omega)]; exact H2.2.2.1) (by rw [sI_1, if_neg (by omega)]; exact H2.2.2.2) ha
      have S3 : SCM (sI (sI (sI (sI (sI (sI C2 97 g (nI b)) 76 44 1) 76 47 (nI b)) 76 48 0) 76 49 1) 76 46 (-1)) sc := fun q hq => ⟨(e0 78 q (by omega) (by omega)).trans (S2 q hq).1, fun hz => ⟨((S2 q hq).2 hz).1, (e0 80 q (by omega) (by omega)).trans ((S2 q hq).2 hz).2.1, ((S2 q hq).2 hz).2.2⟩⟩
      have T3 := TBM_S S3 g4.1 g4.2
      have r8 : (sI (sI (sI (sI (sI (sI C2 97 g (nI b)) 76 44 1) 76 47 (nI b)) 76 48 0) 76 49 1) 76 46 (-1)).1 76 48 = 0 := by rw [sI_1, if_neg (by omega), sI_1, if_neg (by omega), sI_1, if_pos ⟨rfl, rfl⟩]
      have r9 : (sI (sI (sI (sI (sI (sI C2 97 g (nI b)) 76 44 1) 76 47 (nI b)) 76 48 0) 76 49 1) 76 46 (-1)).1 76 49 = 1 := by rw [sI_1, if_neg (by omega), sI_1, if_pos ⟨rfl, rfl⟩]
      refine g_328 (pp := (b, 2)) hg hU hU2 (MS_I (MS_I (MS_I (MS_I M3 (sx_76 (by omega)) (by omega)) (sx_76 (by omega)) (by omega)) (sx_76 (by omega)) (by omega)) (sx_76 (by omega)) (by omega)) ⟨?_, ?_, ⟨?_, ?_⟩, fun q e => ?_, fun q e => ?_⟩ S3 ⟨?_, ?_, ?_, H2.1⟩ ?_ hti (by show 2 < 3; decide)
      · rw [sI_1, if_pos ⟨rfl, rfl⟩]
        rfl
      · rw [sI_1, if_neg (by omega), sI_1, if_neg (by omega), sI_1, if_neg (by omega), sI_1, if_pos ⟨rfl, rfl⟩]
        rfl
      · rw [r8]
        decide
      · rw [r9]
        decide
      · cases e
      · cases e
        rw [r8, r9]
        exact ⟨T3, (by show (0 : Int32) = 1 ↔ 2 ≠ 2; decide), (by show (1 : Int32) = 1 ↔ 2 ≠ 0; decide)⟩
      · rw [sI_1, if_neg (by omega), sI_1, if_neg (by omega), sI_1, if_neg (by omega), sI_1, if_neg (by omega), sI_1, if_neg (by omega), sI_1, if_pos ⟨rfl, rfl⟩]
      · rw [e0 98 g (by omega) (by omega), f2.1 98 g (by omega), f1.1 98 g (by omega)]
        exact h98
      · rw [e0 99 g (by omega) (by omega), f2.1 99 g (by omega), f1.1 99 g (by omega), h99]
        rfl
      · rw [sI_1, if_neg (by omega), sI_1, if_neg (by omega), sI_1, if_neg (by omega), sI_1, if_neg (by omega), sI_1, if_neg (by omega), sI_1, if_neg (by omega)]
        exact H2.2.1
    · subst hv; subst hh; subst hn
      refine w_p (pc1 := 270) rfl rfl ?_
      refine fz_270 hg hU F2 (fun C9 F9 => Or.inr ⟨rfl, ⟨_, ⟨c2, j2, ?_, F9⟩, rfl⟩, rfl⟩)
      rw [pb_r (show xpP (tkP B n) 29 i = .inr (i + 1) from if_pos g1)]
      exact flS_b g3 (fun q _ hk => bd_tr2 hk)
  · subst hv; subst hh; subst hn
    refine fz_250 hg hU F1 (fun C9 F9 => Or.inr ⟨rfl, ⟨_, ⟨c1, j1, flS_b g1 (fun q hq hk => ?_), F9⟩, rfl⟩, rfl⟩)
    obtain ⟨_, rfl⟩ := xpP_s hq
    exact bdS_b (bdS_t hk)
def rT2 (K : tv2) (sc : sc_T) (nm : Int64) (ti i : Nat) (nl : Option Nat) : pz_T (tr_T × Nat × Option Nat) := pb (rEvt K i) (fun ev => rT3 K sc nm ti ev.1 ev.2 nl)
set_option maxRecDepth 100000 in
theorem bd_evt (h : kd B n i = 1) : bdS (rEvt (tkP B n) i) i := by
  refine ⟨2, ?_⟩
  unfold rEvt
  have : evt ((tkP B n).1 i) = none := by
    show evt (kd B n i) = none
    rw [h]
    rfl
  rw [this]
set_option maxRecDepth 100000 in
theorem g_155 (hg : g < 8) (hU : U (32 + g)) (hU2 : U (24 + g)) (M : MS B n U V C0 C i none) (S : SCM C sc) (H0 : TB0 C g nm a) (ha : a + k = 400) (h98 : C.1 98 g = nI ti) (hti : ti < 2) : Wd L xs (d + 12) y_236 (155, [(1, .int (nI g)), (0, .ref 176)], [], MH C t, 0) (PTG B n U V C0 t g (rT2 (tkP B n) sc nm ti i (some k))) nX := by
  unfold rT2
  by_cases h18 : kd B n i = 18
  · rw [pb_r (rEvt_e (e := 0) h18 rfl)]
    have M1 := MS_I (v := 0) M (sx_g (V := V) (k := 99) hU (by omega)) (by omega)
    refine w_p (pc1 := 156) rfl rfl ?_
    refine w_m0 (pc1 := 159) (st1 := .int 0 :: _) rfl rfl (h_gIe (j := 8) rfl rfl rfl rfl rfl (M.2.1.2.1)) rfl ?_
    refine w_f (a := 197) (b := 162) rfl rfl rfl ?_
    refine w_p (pc1 := 163) rfl rfl ?_
    refine w_m0 (pc1 := 166) (st1 := .long 115923103347316 :: _) rfl rfl rfl rfl ?_
    refine w_je (pc1 := 169) (vs := [.ref 176, .long 115923103347316]) (rest := []) (st1 := [.int 1]) (m_205t (d := _) (sl := 0) ((wd_k (k := 18) M.2.1 (by decide) (by decide)).trans (decide_eq_true h18))) rfl rfl rfl (fun _ _ => rfl) rfl (by exact cl_v my_205 rfl rfl rfl (Nat.le_of_ble_eq_true rfl) rfl (MH_obj rfl rfl) rfl (by decide) rfl rfl) (by rfl) (Nat.le_of_ble_eq_true rfl) (Nat.le_of_ble_eq_true rfl) rfl (by rfl) ?_
    refine w_t (a := 197) (b := 172) rfl rfl rfl ?_
    refine w_p (pc1 := 198) rfl rfl ?_
    refine w_m0 (pc1 := 201) rfl rfl (h_gC rfl rfl rfl rfl) rfl ?_
    refine w_p (pc1 := 202) rfl rfl ?_
    refine w_p (pc1 := 203) rfl rfl ?_
    refine w_m0 (pc1 := 206) (st1 := .long 115923103347316 :: _) rfl rfl rfl rfl ?_
    refine w_je (pc1 := 209) (vs := [.ref 176, .long 115923103347316]) (rest := [.int (nI (g)), .ref 199]) (st1 := [.int 1, .int (nI (g)), .ref 199]) (m_205t (d := _) (sl := 0) ((wd_k (k := 18) M.2.1 (by decide) (by decide)).trans (decide_eq_true h18))) rfl rfl rfl (fun _ _ => rfl) rfl (by exact cl_v my_205 rfl rfl rfl (Nat.le_of_ble_eq_true rfl) rfl (MH_obj rfl rfl) rfl (by decide) rfl rfl) (by rfl) (Nat.le_of_ble_eq_true rfl) (Nat.le_of_ble_eq_true rfl) rfl (by rfl) ?_
    refine w_f (a := 216) (b := 212) rfl rfl rfl ?_
    refine w_p (pc1 := 213) (st1 := .int 0 :: _) rfl rfl ?_
    refine w_p (pc1 := 231) rfl rfl ?_
    refine w_m0 (pc1 := 232) rfl rfl (n_is (e := g) rfl rfl rfl (by omega)) rfl ?_
    refine w_p (pc1 := 233) rfl rfl ?_
    refine w_m0 (pc1 := 236) (st1 := .int 0 :: _) rfl rfl (h_gIe (j := 8) rfl rfl rfl rfl rfl (M1.2.1.2.1)) rfl ?_
    refine w_f (a := 243) (b := 239) rfl rfl rfl ?_
    refine w_p (pc1 := 240) rfl rfl ?_
    refine w_ji (pc1 := 243) (vs := [.ref 176]) (rest := []) (nS (d := _) M1 (by rw [h18]; decide)) rfl rfl rfl (fun _ _ => rfl) rfl (by exact cl_v my_195 rfl rfl rfl (Nat.le_of_ble_eq_true rfl) rfl (MH_obj rfl rfl) rfl (by decide) rfl rfl) (by rfl) (Nat.le_of_ble_eq_true rfl) (Nat.le_of_ble_eq_true rfl) rfl (fun v h1 d1 hq => ?_) (fun _ _ _ e => e.elim)
    rcases hq with ⟨hv, ⟨C2, ⟨g2, M2, f2⟩, hh⟩, hn⟩ | ⟨hv, ⟨C2, ⟨g2, F2, f2⟩, hh⟩, hn⟩
    · subst hv; subst hh; subst hn
      exact g_243_0 hg hU hU2 M2 (SCM_T (SCM_1 S (by omega)) f2) (TB0_T (TB0_1 H0 (by omega)) f2) ha (by rw [f2.1 98 g (by omega), sI_1, if_neg (by omega)]; exact h98) (by rw [f2.1 99 g (by omega), sI_1, if_pos ⟨rfl, rfl⟩]) hti
    · subst hv; subst hh; subst hn
      exact fz_243 hg hU F2 (fun C9 F9 => Or.inr ⟨rfl, ⟨_, ⟨1, i + 1, flS_1 (bdS_b (bdS_x g2 (by decide))) g2, F9⟩, rfl⟩, rfl⟩)
  by_cases h41 : kd B n i = 41
  · rw [pb_r (rEvt_e (e := 1) h41 rfl)]
    have M1 := MS_I (v := 1) M (sx_g (V := V) (k := 99) hU (by omega)) (by omega)
    refine w_p (pc1 := 156) rfl rfl ?_
    refine w_m0 (pc1 := 159) (st1 := .int 0 :: _) rfl rfl (h_gIe (j := 8) rfl rfl rfl rfl rfl (M.2.1.2.1)) rfl ?_
    refine w_f (a := 197) (b := 162) rfl rfl rfl ?_
    refine w_p (pc1 := 163) rfl rfl ?_
    refine w_m0 (pc1 := 166) (st1 := .long 115923103347316 :: _) rfl rfl rfl rfl ?_
    refine w_je (pc1 := 169) (vs := [.ref 176, .long 115923103347316]) (rest := []) (st1 := [.int 0]) (m_205f (d := _) (sl := 0) ((wd_k (k := 18) M.2.1 (by decide) (by decide)).trans (decide_eq_false (by rw [h41]; decide)))) rfl rfl rfl (fun _ _ => rfl) rfl (by exact cl_v my_205 rfl rfl rfl (Nat.le_of_ble_eq_true rfl) rfl (MH_obj rfl rfl) rfl (by decide) rfl rfl) (by rfl) (Nat.le_of_ble_eq_true rfl) (Nat.le_of_ble_eq_true rfl) rfl (by rfl) ?_
    refine w_f (a := 197) (b := 172) rfl rfl rfl ?_
    refine w_p (pc1 := 173) rfl rfl ?_
    refine w_m0 (pc1 := 176) (st1 := .long 129125580895333 :: _) rfl rfl rfl rfl ?_
    refine w_je (pc1 := 179) (vs := [.ref 176, .long 129125580895333]) (rest := []) (st1 := [.int 1]) (m_205t (d := _) (sl := 0) ((wd_k (k := 41) M.2.1 (by decide) (by decide)).trans (decide_eq_true h41))) rfl rfl rfl (fun _ _ => rfl) rfl (by exact cl_v my_205 rfl rfl rfl (Nat.le_of_ble_eq_true rfl) rfl (MH_obj rfl rfl) rfl (by decide) rfl rfl) (by rfl) (Nat.le_of_ble_eq_true rfl) (Nat.le_of_ble_eq_true rfl) rfl (by rfl) ?_
    refine w_t (a := 197) (b := 182) rfl rfl rfl ?_
    refine w_p (pc1 := 198) rfl rfl ?_
    refine w_m0 (pc1 := 201) rfl rfl (h_gC rfl rfl rfl rfl) rfl ?_
    refine w_p (pc1 := 202) rfl rfl ?_
    refine w_p (pc1 := 203) rfl rfl ?_
    refine w_m0 (pc1 := 206) (st1 := .long 115923103347316 :: _) rfl rfl rfl rfl ?_
    refine w_je (pc1 := 209) (vs := [.ref 176, .long 115923103347316]) (rest := [.int (nI (g)), .ref 199]) (st1 := [.int 0, .int (nI (g)), .ref 199]) (m_205f (d := _) (sl := 0) ((wd_k (k := 18) M.2.1 (by decide) (by decide)).trans (decide_eq_false (by rw [h41]; decide)))) rfl rfl rfl (fun _ _ => rfl) rfl (by exact cl_v my_205 rfl rfl rfl (Nat.le_of_ble_eq_true rfl) rfl (MH_obj rfl rfl) rfl (by decide) rfl rfl) (by rfl) (Nat.le_of_ble_eq_true rfl) (Nat.le_of_ble_eq_true rfl) rfl (by rfl) ?_
    refine w_t (a := 216) (b := 212) rfl rfl rfl ?_
    refine w_p (pc1 := 217) rfl rfl ?_
    refine w_m0 (pc1 := 220) (st1 := .long 129125580895333 :: _) rfl rfl rfl rfl ?_
    refine w_je (pc1 := 223) (vs := [.ref 176, .long 129125580895333]) (rest := [.int (nI (g)), .ref 199]) (st1 := [.int 1, .int (nI (g)), .ref 199]) (m_205t (d := _) (sl := 0) ((wd_k (k := 41) M.2.1 (by decide) (by decide)).trans (decide_eq_true h41))) rfl rfl rfl (fun _ _ => rfl) rfl (by exact cl_v my_205 rfl rfl rfl (Nat.le_of_ble_eq_true rfl) rfl (MH_obj rfl rfl) rfl (by decide) rfl rfl) (by rfl) (Nat.le_of_ble_eq_true rfl) (Nat.le_of_ble_eq_true rfl) rfl (by rfl) ?_
    refine w_f (a := 230) (b := 226) rfl rfl rfl ?_
    refine w_p (pc1 := 227) (st1 := .int 1 :: _) rfl rfl ?_
    refine w_p (pc1 := 231) rfl rfl ?_
    refine w_m0 (pc1 := 232) rfl rfl (n_is (e := g) rfl rfl rfl (by omega)) rfl ?_
    refine w_p (pc1 := 233) rfl rfl ?_
    refine w_m0 (pc1 := 236) (st1 := .int 0 :: _) rfl rfl (h_gIe (j := 8) rfl rfl rfl rfl rfl (M1.2.1.2.1)) rfl ?_
    refine w_f (a := 243) (b := 239) rfl rfl rfl ?_
    refine w_p (pc1 := 240) rfl rfl ?_
    refine w_ji (pc1 := 243) (vs := [.ref 176]) (rest := []) (nS (d := _) M1 (by rw [h41]; decide)) rfl rfl rfl (fun _ _ => rfl) rfl (by exact cl_v my_195 rfl rfl rfl (Nat.le_of_ble_eq_true rfl) rfl (MH_obj rfl rfl) rfl (by decide) rfl rfl) (by rfl) (Nat.le_of_ble_eq_true rfl) (Nat.le_of_ble_eq_true rfl) rfl (fun v h1 d1 hq => ?_) (fun _ _ _ e => e.elim)
    rcases hq with ⟨hv, ⟨C2, ⟨g2, M2, f2⟩, hh⟩, hn⟩ | ⟨hv, ⟨C2, ⟨g2, F2, f2⟩, hh⟩, hn⟩
    · subst hv; subst hh; subst hn
      exact g_243_1 hg hU hU2 M2 (SCM_T (SCM_1 S (by omega)) f2) (TB0_T (TB0_1 H0 (by omega)) f2) ha (by rw [f2.1 98 g (by omega), sI_1, if_neg (by omega)]; exact h98) (by rw [f2.1 99 g (by omega), sI_1, if_pos ⟨rfl, rfl⟩]) hti
    · subst hv; subst hh; subst hn
      exact fz_243 hg hU F2 (fun C9 F9 => Or.inr ⟨rfl, ⟨_, ⟨1, i + 1, flS_1 (bdS_b (bdS_x g2 (by decide))) g2, F9⟩, rfl⟩, rfl⟩)
  by_cases h15 : kd B n i = 15
  · rw [pb_r (rEvt_e (e := 2) h15 rfl)]
    have M1 := MS_I (v := 2) M (sx_g (V := V) (k := 99) hU (by omega)) (by omega)
    refine w_p (pc1 := 156) rfl rfl ?_
    refine w_m0 (pc1 := 159) (st1 := .int 0 :: _) rfl rfl (h_gIe (j := 8) rfl rfl rfl rfl rfl (M.2.1.2.1)) rfl ?_
    refine w_f (a := 197) (b := 162) rfl rfl rfl ?_
    refine w_p (pc1 := 163) rfl rfl ?_
    refine w_m0 (pc1 := 166) (st1 := .long 115923103347316 :: _) rfl rfl rfl rfl ?_
    refine w_je (pc1 := 169) (vs := [.ref 176, .long 115923103347316]) (rest := []) (st1 := [.int 0]) (m_205f (d := _) (sl := 0) ((wd_k (k := 18) M.2.1 (by decide) (by decide)).trans (decide_eq_false (by rw [h15]; decide)))) rfl rfl rfl (fun _ _ => rfl) rfl (by exact cl_v my_205 rfl rfl rfl (Nat.le_of_ble_eq_true rfl) rfl (MH_obj rfl rfl) rfl (by decide) rfl rfl) (by rfl) (Nat.le_of_ble_eq_true rfl) (Nat.le_of_ble_eq_true rfl) rfl (by rfl) ?_
    refine w_f (a := 197) (b := 172) rfl rfl rfl ?_
    refine w_p (pc1 := 173) rfl rfl ?_
    refine w_m0 (pc1 := 176) (st1 := .long 129125580895333 :: _) rfl rfl rfl rfl ?_
    refine w_je (pc1 := 179) (vs := [.ref 176, .long 129125580895333]) (rest := []) (st1 := [.int 0]) (m_205f (d := _) (sl := 0) ((wd_k (k := 41) M.2.1 (by decide) (by decide)).trans (decide_eq_false (by rw [h15]; decide)))) rfl rfl rfl (fun _ _ => rfl) rfl (by exact cl_v my_205 rfl rfl rfl (Nat.le_of_ble_eq_true rfl) rfl (MH_obj rfl rfl) rfl (by decide) rfl rfl) (by rfl) (Nat.le_of_ble_eq_true rfl) (Nat.le_of_ble_eq_true rfl) rfl (by rfl) ?_
    refine w_f (a := 197) (b := 182) rfl rfl rfl ?_
    refine w_p (pc1 := 183) rfl rfl ?_
    refine w_m0 (pc1 := 186) (st1 := .long 110386773062757 :: _) rfl rfl rfl rfl ?_
    refine w_je (pc1 := 189) (vs := [.ref 176, .long 110386773062757]) (rest := []) (st1 := [.int 1]) (m_205t (d := _) (sl := 0) ((wd_k (k := 15) M.2.1 (by decide) (by decide)).trans (decide_eq_true h15))) rfl rfl rfl (fun _ _ => rfl) rfl (by exact cl_v my_205 rfl rfl rfl (Nat.le_of_ble_eq_true rfl) rfl (MH_obj rfl rfl) rfl (by decide) rfl rfl) (by rfl) (Nat.le_of_ble_eq_true rfl) (Nat.le_of_ble_eq_true rfl) rfl (by rfl) ?_
    refine w_t (a := 197) (b := 192) rfl rfl rfl ?_
    refine w_p (pc1 := 198) rfl rfl ?_
    refine w_m0 (pc1 := 201) rfl rfl (h_gC rfl rfl rfl rfl) rfl ?_
    refine w_p (pc1 := 202) rfl rfl ?_
    refine w_p (pc1 := 203) rfl rfl ?_
    refine w_m0 (pc1 := 206) (st1 := .long 115923103347316 :: _) rfl rfl rfl rfl ?_
    refine w_je (pc1 := 209) (vs := [.ref 176, .long 115923103347316]) (rest := [.int (nI (g)), .ref 199]) (st1 := [.int 0, .int (nI (g)), .ref 199]) (m_205f (d := _) (sl := 0) ((wd_k (k := 18) M.2.1 (by decide) (by decide)).trans (decide_eq_false (by rw [h15]; decide)))) rfl rfl rfl (fun _ _ => rfl) rfl (by exact cl_v my_205 rfl rfl rfl (Nat.le_of_ble_eq_true rfl) rfl (MH_obj rfl rfl) rfl (by decide) rfl rfl) (by rfl) (Nat.le_of_ble_eq_true rfl) (Nat.le_of_ble_eq_true rfl) rfl (by rfl) ?_
    refine w_t (a := 216) (b := 212) rfl rfl rfl ?_
    refine w_p (pc1 := 217) rfl rfl ?_
    refine w_m0 (pc1 := 220) (st1 := .long 129125580895333 :: _) rfl rfl rfl rfl ?_
    refine w_je (pc1 := 223) (vs := [.ref 176, .long 129125580895333]) (rest := [.int (nI (g)), .ref 199]) (st1 := [.int 0, .int (nI (g)), .ref 199]) (m_205f (d := _) (sl := 0) ((wd_k (k := 41) M.2.1 (by decide) (by decide)).trans (decide_eq_false (by rw [h15]; decide)))) rfl rfl rfl (fun _ _ => rfl) rfl (by exact cl_v my_205 rfl rfl rfl (Nat.le_of_ble_eq_true rfl) rfl (MH_obj rfl rfl) rfl (by decide) rfl rfl) (by rfl) (Nat.le_of_ble_eq_true rfl) (Nat.le_of_ble_eq_true rfl) rfl (by rfl) ?_
    refine w_t (a := 230) (b := 226) rfl rfl rfl ?_
    refine w_p (pc1 := 231) (st1 := .int 2 :: _) rfl rfl ?_
    refine w_m0 (pc1 := 232) rfl rfl (n_is (e := g) rfl rfl rfl (by omega)) rfl ?_
    refine w_p (pc1 := 233) rfl rfl ?_
    refine w_m0 (pc1 := 236) (st1 := .int 0 :: _) rfl rfl (h_gIe (j := 8) rfl rfl rfl rfl rfl (M1.2.1.2.1)) rfl ?_
    refine w_f (a := 243) (b := 239) rfl rfl rfl ?_
    refine w_p (pc1 := 240) rfl rfl ?_
    refine w_ji (pc1 := 243) (vs := [.ref 176]) (rest := []) (nS (d := _) M1 (by rw [h15]; decide)) rfl rfl rfl (fun _ _ => rfl) rfl (by exact cl_v my_195 rfl rfl rfl (Nat.le_of_ble_eq_true rfl) rfl (MH_obj rfl rfl) rfl (by decide) rfl rfl) (by rfl) (Nat.le_of_ble_eq_true rfl) (Nat.le_of_ble_eq_true rfl) rfl (fun v h1 d1 hq => ?_) (fun _ _ _ e => e.elim)
    rcases hq with ⟨hv, ⟨C2, ⟨g2, M2, f2⟩, hh⟩, hn⟩ | ⟨hv, ⟨C2, ⟨g2, F2, f2⟩, hh⟩, hn⟩
    · subst hv; subst hh; subst hn
      exact g_243_2 hg hU hU2 M2 (SCM_T (SCM_1 S (by omega)) f2) (TB0_T (TB0_1 H0 (by omega)) f2) ha (by rw [f2.1 98 g (by omega), sI_1, if_neg (by omega)]; exact h98) (by rw [f2.1 99 g (by omega), sI_1, if_pos ⟨rfl, rfl⟩]) hti
    · subst hv; subst hh; subst hn
      exact fz_243 hg hU F2 (fun C9 F9 => Or.inr ⟨rfl, ⟨_, ⟨1, i + 1, flS_1 (bdS_b (bdS_x g2 (by decide))) g2, F9⟩, rfl⟩, rfl⟩)
  have hx : rEvt (tkP B n) i = .inl (2, i) := by
    unfold rEvt
    have : evt ((tkP B n).1 i) = none := by
      show evt (kd B n i) = none
      unfold evt
      rw [if_neg h18, if_neg h41, if_neg h15]
    rw [this]
  refine w_p (pc1 := 156) rfl rfl ?_
  refine w_m0 (pc1 := 159) (st1 := .int 0 :: _) rfl rfl (h_gIe (j := 8) rfl rfl rfl rfl rfl (M.2.1.2.1)) rfl ?_
  refine w_f (a := 197) (b := 162) rfl rfl rfl ?_
  refine w_p (pc1 := 163) rfl rfl ?_
  refine w_m0 (pc1 := 166) (st1 := .long 115923103347316 :: _) rfl rfl rfl rfl ?_
  refine w_je (pc1 := 169) (vs := [.ref 176, .long 115923103347316]) (rest := []) (st1 := [.int 0]) (m_205f (d := _) (sl := 0) ((wd_k (k := 18) M.2.1 (by decide) (by decide)).trans (decide_eq_false h18))) rfl rfl rfl (fun _ _ => rfl) rfl (by exact cl_v my_205 rfl rfl rfl (Nat.le_of_ble_eq_true rfl) rfl (MH_obj rfl rfl) rfl (by decide) rfl rfl) (by rfl) (Nat.le_of_ble_eq_true rfl) (Nat.le_of_ble_eq_true rfl) rfl (by rfl) ?_
  refine w_f (a := 197) (b := 172) rfl rfl rfl ?_
  refine w_p (pc1 := 173) rfl rfl ?_
  refine w_m0 (pc1 := 176) (st1 := .long 129125580895333 :: _) rfl rfl rfl rfl ?_
  refine w_je (pc1 := 179) (vs := [.ref 176, .long 129125580895333]) (rest := []) (st1 := [.int 0]) (m_205f (d := _) (sl := 0) ((wd_k (k := 41) M.2.1 (by decide) (by decide)).trans (decide_eq_false h41))) rfl rfl rfl (fun _ _ => rfl) rfl (by exact cl_v my_205 rfl rfl rfl (Nat.le_of_ble_eq_true rfl) rfl (MH_obj rfl rfl) rfl (by decide) rfl rfl) (by rfl) (Nat.le_of_ble_eq_true rfl) (Nat.le_of_ble_eq_true rfl) rfl (by rfl) ?_
  refine w_f (a := 197) (b := 182) rfl rfl rfl ?_
  refine w_p (pc1 := 183) rfl rfl ?_
  refine w_m0 (pc1 := 186) (st1 := .long 110386773062757 :: _) rfl rfl rfl rfl ?_
  refine w_je (pc1 := 189) (vs := [.ref 176, .long 110386773062757]) (rest := []) (st1 := [.int 0]) (m_205f (d := _) (sl := 0) ((wd_k (k := 15) M.2.1 (by decide) (by decide)).trans (decide_eq_false h15))) rfl rfl rfl (fun _ _ => rfl) rfl (by exact cl_v my_205 rfl rfl rfl (Nat.le_of_ble_eq_true rfl) rfl (MH_obj rfl rfl) rfl (by decide) rfl rfl) (by rfl) (Nat.le_of_ble_eq_true rfl) (Nat.le_of_ble_eq_true rfl) rfl (by rfl) ?_
  refine w_f (a := 197) (b := 192) rfl rfl rfl ?_
  refine w_p (pc1 := 193) rfl rfl ?_
  refine w_p (pc1 := 194) (st1 := .int 2 :: _) rfl rfl ?_
  refine w_je (pc1 := 197) (vs := [.ref 176, .int 2]) (rest := []) (st1 := []) (m_200 (d := _) (sl := 0) (fun z => absurd M.2.1.2.1 z)) rfl rfl rfl (fun _ _ => rfl) rfl (by exact cl_v my_200 rfl rfl rfl (Nat.le_of_ble_eq_true rfl) rfl (MH_obj rfl rfl) rfl (by decide) rfl rfl) (by rfl) (Nat.le_of_ble_eq_true rfl) (Nat.le_of_ble_eq_true rfl) rfl (by rfl) ?_
  exact fz_197 hg hU (FS_new (c := 2) M (by decide)) (fun C9 F9 => Or.inr ⟨rfl, ⟨_, ⟨2, i, flS_n (pb_l hx) M.2.1.1, F9⟩, rfl⟩, rfl⟩)
set_option maxRecDepth 100000 in
theorem rTr1_e {K : tv2} : rTr1 K sc nm i nl = pb (rTim K i) (fun ti => rT2 K sc nm ti.1 ti.2 nl) := rfl
set_option maxRecDepth 100000 in
theorem g_91 (hg : g < 8) (hU : U (32 + g)) (hU2 : U (24 + g)) (M : MS B n U V C0 C i none) (S : SCM C sc) (H0 : TB0 C g nm a) (ha : a + k = 400) : Wd L xs (d + 12) y_236 (91, [(1, .int (nI g)), (0, .ref 176)], [], MH C t, 0) (PTG B n U V C0 t g (rTr1 (tkP B n) sc nm i (some k))) nX := by
  rw [rTr1_e]
  by_cases h5 : kd B n i = 5
  · have hx : rTim (tkP B n) i = .inr (1, i + 1) := by
      unfold rTim
      exact if_pos h5
    rw [pb_r hx]
    have M1 := MS_I (v := 1) M (sx_g (V := V) (k := 98) hU (by omega)) (by omega)
    refine w_p (pc1 := 92) rfl rfl ?_
    refine w_m0 (pc1 := 95) (st1 := .int 0 :: _) rfl rfl (h_gIe (j := 8) rfl rfl rfl rfl rfl (M.2.1.2.1)) rfl ?_
    refine w_f (a := 123) (b := 98) rfl rfl rfl ?_
    refine w_p (pc1 := 99) rfl rfl ?_
    refine w_m0 (pc1 := 102) (st1 := .long 108187649798757 :: _) rfl rfl rfl rfl ?_
    refine w_je (pc1 := 105) (vs := [.ref 176, .long 108187649798757]) (rest := []) (st1 := [.int 0]) (m_205f (d := _) (sl := 0) ((wd_k (k := 9) M.2.1 (by decide) (by decide)).trans (decide_eq_false (by rw [h5]; decide)))) rfl rfl rfl (fun _ _ => rfl) rfl (by exact cl_v my_205 rfl rfl rfl (Nat.le_of_ble_eq_true rfl) rfl (MH_obj rfl rfl) rfl (by decide) rfl rfl) (by rfl) (Nat.le_of_ble_eq_true rfl) (Nat.le_of_ble_eq_true rfl) rfl (by rfl) ?_
    refine w_f (a := 123) (b := 108) rfl rfl rfl ?_
    refine w_p (pc1 := 109) rfl rfl ?_
    refine w_m0 (pc1 := 112) (st1 := .long 418330731890 :: _) rfl rfl rfl rfl ?_
    refine w_je (pc1 := 115) (vs := [.ref 176, .long 418330731890]) (rest := []) (st1 := [.int 1]) (m_205t (d := _) (sl := 0) ((wd_k (k := 5) M.2.1 (by decide) (by decide)).trans (decide_eq_true h5))) rfl rfl rfl (fun _ _ => rfl) rfl (by exact cl_v my_205 rfl rfl rfl (Nat.le_of_ble_eq_true rfl) rfl (MH_obj rfl rfl) rfl (by decide) rfl rfl) (by rfl) (Nat.le_of_ble_eq_true rfl) (Nat.le_of_ble_eq_true rfl) rfl (by rfl) ?_
    refine w_t (a := 123) (b := 118) rfl rfl rfl ?_
    refine w_p (pc1 := 124) rfl rfl ?_
    refine w_m0 (pc1 := 127) rfl rfl (h_gC rfl rfl rfl rfl) rfl ?_
    refine w_p (pc1 := 128) rfl rfl ?_
    refine w_p (pc1 := 129) rfl rfl ?_
    refine w_m0 (pc1 := 132) (st1 := .long 108187649798757 :: _) rfl rfl rfl rfl ?_
    refine w_je (pc1 := 135) (vs := [.ref 176, .long 108187649798757]) (rest := [.int (nI (g)), .ref 198]) (st1 := [.int 0, .int (nI (g)), .ref 198]) (m_205f (d := _) (sl := 0) ((wd_k (k := 9) M.2.1 (by decide) (by decide)).trans (decide_eq_false (by rw [h5]; decide)))) rfl rfl rfl (fun _ _ => rfl) rfl (by exact cl_v my_205 rfl rfl rfl (Nat.le_of_ble_eq_true rfl) rfl (MH_obj rfl rfl) rfl (by decide) rfl rfl) (by rfl) (Nat.le_of_ble_eq_true rfl) (Nat.le_of_ble_eq_true rfl) rfl (by rfl) ?_
    refine w_t (a := 142) (b := 138) rfl rfl rfl ?_
    refine w_p (pc1 := 143) (st1 := .int 1 :: _) rfl rfl ?_
    refine w_m0 (pc1 := 144) rfl rfl (n_is (e := g) rfl rfl rfl (by omega)) rfl ?_
    refine w_p (pc1 := 145) rfl rfl ?_
    refine w_m0 (pc1 := 148) (st1 := .int 0 :: _) rfl rfl (h_gIe (j := 8) rfl rfl rfl rfl rfl (M1.2.1.2.1)) rfl ?_
    refine w_f (a := 155) (b := 151) rfl rfl rfl ?_
    refine w_p (pc1 := 152) rfl rfl ?_
    refine w_ji (pc1 := 155) (vs := [.ref 176]) (rest := []) (nS (d := _) M1 (by rw [h5]; decide)) rfl rfl rfl (fun _ _ => rfl) rfl (by exact cl_v my_195 rfl rfl rfl (Nat.le_of_ble_eq_true rfl) rfl (MH_obj rfl rfl) rfl (by decide) rfl rfl) (by rfl) (Nat.le_of_ble_eq_true rfl) (Nat.le_of_ble_eq_true rfl) rfl (fun v h1 d1 hq => ?_) (fun _ _ _ e => e.elim)
    rcases hq with ⟨hv, ⟨C2, ⟨g2, M2, f2⟩, hh⟩, hn⟩ | ⟨hv, ⟨C2, ⟨g2, F2, f2⟩, hh⟩, hn⟩
    · subst hv; subst hh; subst hn
      exact g_155 (ti := 1) hg hU hU2 M2 (SCM_T (SCM_1 S (by omega)) f2) (TB0_T (TB0_1 H0 (by omega)) f2) ha (by rw [f2.1 98 g (by omega), sI_1, if_pos ⟨rfl, rfl⟩]; rfl) (by decide)
    · subst hv; subst hh; subst hn
      exact fz_155 hg hU F2 (fun C9 F9 => Or.inr ⟨rfl, ⟨_, ⟨1, i + 1, flS_1 (bdS_b (bd_evt g2)) g2, F9⟩, rfl⟩, rfl⟩)
  by_cases h9 : kd B n i = 9
  · have hx : rTim (tkP B n) i = .inr (0, i + 1) := by
      unfold rTim
      rw [if_neg (by show ¬ kd B n i = 5; exact h5), if_pos (by show kd B n i = 9; exact h9)]
    rw [pb_r hx]
    have M1 := MS_I (v := 0) M (sx_g (V := V) (k := 98) hU (by omega)) (by omega)
    refine w_p (pc1 := 92) rfl rfl ?_
    refine w_m0 (pc1 := 95) (st1 := .int 0 :: _) rfl rfl (h_gIe (j := 8) rfl rfl rfl rfl rfl (M.2.1.2.1)) rfl ?_
    refine w_f (a := 123) (b := 98) rfl rfl rfl ?_
    refine w_p (pc1 := 99) rfl rfl ?_
    refine w_m0 (pc1 := 102) (st1 := .long 108187649798757 :: _) rfl rfl rfl rfl ?_
    refine w_je (pc1 := 105) (vs := [.ref 176, .long 108187649798757]) (rest := []) (st1 := [.int 1]) (m_205t (d := _) (sl := 0) ((wd_k (k := 9) M.2.1 (by decide) (by decide)).trans (decide_eq_true h9))) rfl rfl rfl (fun _ _ => rfl) rfl (by exact cl_v my_205 rfl rfl rfl (Nat.le_of_ble_eq_true rfl) rfl (MH_obj rfl rfl) rfl (by decide) rfl rfl) (by rfl) (Nat.le_of_ble_eq_true rfl) (Nat.le_of_ble_eq_true rfl) rfl (by rfl) ?_
    refine w_t (a := 123) (b := 108) rfl rfl rfl ?_
    refine w_p (pc1 := 124) rfl rfl ?_
    refine w_m0 (pc1 := 127) rfl rfl (h_gC rfl rfl rfl rfl) rfl ?_
    refine w_p (pc1 := 128) rfl rfl ?_
    refine w_p (pc1 := 129) rfl rfl ?_
    refine w_m0 (pc1 := 132) (st1 := .long 108187649798757 :: _) rfl rfl rfl rfl ?_
    refine w_je (pc1 := 135) (vs := [.ref 176, .long 108187649798757]) (rest := [.int (nI (g)), .ref 198]) (st1 := [.int 1, .int (nI (g)), .ref 198]) (m_205t (d := _) (sl := 0) ((wd_k (k := 9) M.2.1 (by decide) (by decide)).trans (decide_eq_true h9))) rfl rfl rfl (fun _ _ => rfl) rfl (by exact cl_v my_205 rfl rfl rfl (Nat.le_of_ble_eq_true rfl) rfl (MH_obj rfl rfl) rfl (by decide) rfl rfl) (by rfl) (Nat.le_of_ble_eq_true rfl) (Nat.le_of_ble_eq_true rfl) rfl (by rfl) ?_
    refine w_f (a := 142) (b := 138) rfl rfl rfl ?_
    refine w_p (pc1 := 139) (st1 := .int 0 :: _) rfl rfl ?_
    refine w_p (pc1 := 143) rfl rfl ?_
    refine w_m0 (pc1 := 144) rfl rfl (n_is (e := g) rfl rfl rfl (by omega)) rfl ?_
    refine w_p (pc1 := 145) rfl rfl ?_
    refine w_m0 (pc1 := 148) (st1 := .int 0 :: _) rfl rfl (h_gIe (j := 8) rfl rfl rfl rfl rfl (M1.2.1.2.1)) rfl ?_
    refine w_f (a := 155) (b := 151) rfl rfl rfl ?_
    refine w_p (pc1 := 152) rfl rfl ?_
    refine w_ji (pc1 := 155) (vs := [.ref 176]) (rest := []) (nS (d := _) M1 (by rw [h9]; decide)) rfl rfl rfl (fun _ _ => rfl) rfl (by exact cl_v my_195 rfl rfl rfl (Nat.le_of_ble_eq_true rfl) rfl (MH_obj rfl rfl) rfl (by decide) rfl rfl) (by rfl) (Nat.le_of_ble_eq_true rfl) (Nat.le_of_ble_eq_true rfl) rfl (fun v h1 d1 hq => ?_) (fun _ _ _ e => e.elim)
    rcases hq with ⟨hv, ⟨C2, ⟨g2, M2, f2⟩, hh⟩, hn⟩ | ⟨hv, ⟨C2, ⟨g2, F2, f2⟩, hh⟩, hn⟩
    · subst hv; subst hh; subst hn
      exact g_155 (ti := 0) hg hU hU2 M2 (SCM_T (SCM_1 S (by omega)) f2) (TB0_T (TB0_1 H0 (by omega)) f2) ha (by rw [f2.1 98 g (by omega), sI_1, if_pos ⟨rfl, rfl⟩]; rfl) (by decide)
    · subst hv; subst hh; subst hn
      exact fz_155 hg hU F2 (fun C9 F9 => Or.inr ⟨rfl, ⟨_, ⟨1, i + 1, flS_1 (bdS_b (bd_evt g2)) g2, F9⟩, rfl⟩, rfl⟩)
  have hx : rTim (tkP B n) i = .inl (2, i) := by
    unfold rTim
    rw [if_neg (by show ¬ kd B n i = 5; exact h5), if_neg (by show ¬ kd B n i = 9; exact h9)]
  refine w_p (pc1 := 92) rfl rfl ?_
  refine w_m0 (pc1 := 95) (st1 := .int 0 :: _) rfl rfl (h_gIe (j := 8) rfl rfl rfl rfl rfl (M.2.1.2.1)) rfl ?_
  refine w_f (a := 123) (b := 98) rfl rfl rfl ?_
  refine w_p (pc1 := 99) rfl rfl ?_
  refine w_m0 (pc1 := 102) (st1 := .long 108187649798757 :: _) rfl rfl rfl rfl ?_
  refine w_je (pc1 := 105) (vs := [.ref 176, .long 108187649798757]) (rest := []) (st1 := [.int 0]) (m_205f (d := _) (sl := 0) ((wd_k (k := 9) M.2.1 (by decide) (by decide)).trans (decide_eq_false h9))) rfl rfl rfl (fun _ _ => rfl) rfl (by exact cl_v my_205 rfl rfl rfl (Nat.le_of_ble_eq_true rfl) rfl (MH_obj rfl rfl) rfl (by decide) rfl rfl) (by rfl) (Nat.le_of_ble_eq_true rfl) (Nat.le_of_ble_eq_true rfl) rfl (by rfl) ?_
  refine w_f (a := 123) (b := 108) rfl rfl rfl ?_
  refine w_p (pc1 := 109) rfl rfl ?_
  refine w_m0 (pc1 := 112) (st1 := .long 418330731890 :: _) rfl rfl rfl rfl ?_
  refine w_je (pc1 := 115) (vs := [.ref 176, .long 418330731890]) (rest := []) (st1 := [.int 0]) (m_205f (d := _) (sl := 0) ((wd_k (k := 5) M.2.1 (by decide) (by decide)).trans (decide_eq_false h5))) rfl rfl rfl (fun _ _ => rfl) rfl (by exact cl_v my_205 rfl rfl rfl (Nat.le_of_ble_eq_true rfl) rfl (MH_obj rfl rfl) rfl (by decide) rfl rfl) (by rfl) (Nat.le_of_ble_eq_true rfl) (Nat.le_of_ble_eq_true rfl) rfl (by rfl) ?_
  refine w_f (a := 123) (b := 118) rfl rfl rfl ?_
  refine w_p (pc1 := 119) rfl rfl ?_
  refine w_p (pc1 := 120) (st1 := .int 2 :: _) rfl rfl ?_
  refine w_je (pc1 := 123) (vs := [.ref 176, .int 2]) (rest := []) (st1 := []) (m_200 (d := _) (sl := 0) (fun z => absurd M.2.1.2.1 z)) rfl rfl rfl (fun _ _ => rfl) rfl (by exact cl_v my_200 rfl rfl rfl (Nat.le_of_ble_eq_true rfl) rfl (MH_obj rfl rfl) rfl (by decide) rfl rfl) (by rfl) (Nat.le_of_ble_eq_true rfl) (Nat.le_of_ble_eq_true rfl) rfl (by rfl) ?_
  exact fz_123 hg hU (FS_new (c := 2) M (by decide)) (fun C9 F9 => Or.inr ⟨rfl, ⟨_, ⟨2, i, flS_n (pb_l hx) M.2.1.1, F9⟩, rfl⟩, rfl⟩)
end MSI
