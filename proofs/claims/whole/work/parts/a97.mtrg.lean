
/-! THE OTHER SIDE READS STATEMENTS, 12: a trigger -/
section MSH
variable {L : Nat} {xs : Nat → Int32} {B : Nat → Nat} {n : Nat} {C C' C0 C1 : co_T} {t : ab_H} {d i i0 i1 j b e p k w q : Nat} {U V : Nat → Prop} {c : Int32} {sc : sc_T} {row : Option Nat} {tg : Option (Nat × Nat)} {nl : Option Nat} {E : fe_T} {tr : Nat → Option tr_T}
variable {g ti a : Nat} {pp : Nat × Nat} {wh : Option (List op_T)} {nm : Int64}
def whG (C : co_T) (g : Nat) : Option (List op_T) → Prop
  | none => C.1 104 g = 0
  | some O => C.1 104 g = 1 ∧ C.1 113 (24 + g) = nI O.length ∧ O.length ≤ 619 ∧ foM C (24 + g) 0 O
def TRP (C : co_T) (g : Nat) (nm : Int64) (pp : Nat × Nat) (ti : Nat) (wh : Option (List op_T)) : Prop := (C.1 97 g = nI pp.1 ∧ C.1 98 g = nI ti ∧ C.1 99 g = nI pp.2 ∧ C.2.1 96 g = nm) ∧ whG C g wh
set_option maxRecDepth 100000 in
theorem TRP_o (H : TRP C g nm pp ti wh) (h1 : ∀ k, (97 ≤ k ∧ k ≤ 99) ∨ k = 104 → C'.1 k g = C.1 k g) (h2 : C'.2.1 96 g = C.2.1 96 g) (h3 : C'.1 113 (24 + g) = C.1 113 (24 + g)) (h4 : ∀ j, 620 * (24 + g) ≤ j → j < 620 * (24 + g) + 620 → C'.1 106 j = C.1 106 j ∧ C'.2.1 107 j = C.2.1 107 j) : TRP C' g nm pp ti wh := by
  obtain ⟨⟨g1, g2, g3, g4⟩, g5⟩ := H
  refine ⟨⟨(h1 97 (by omega)).trans g1, (h1 98 (by omega)).trans g2, (h1 99 (by omega)).trans g3, h2.trans g4⟩, ?_⟩
  cases wh with
  | none => exact (h1 104 (by omega)).trans g5
  | some O =>
    obtain ⟨a1, a2, a3, a4⟩ := g5
    refine ⟨(h1 104 (by omega)).trans a1, h3.trans a2, a3, fun j q hq => ?_⟩
    have hj : j < O.length := (List.getElem?_eq_some_iff.mp hq).1
    have e := h4 (620 * (24 + g) + (0 + j)) (by omega) (by omega)
    rw [e.1, e.2]
    exact a4 j q hq
set_option maxRecDepth 100000 in
theorem TRM_mk {a : ac_T} (H : TRP C g nm pp ti wh) (A : AGM C g a) : TRM C g (nm, pp.1, ti, pp.2, wh, a) := by
  obtain ⟨⟨g1, g2, g3, g4⟩, g5⟩ := H
  obtain ⟨a1, a2, a3, a4, a5⟩ := A
  refine ⟨⟨g1, g2, g3, a1, a2, g4⟩, ?_, a3, a4, a5⟩
  cases wh with
  | none => exact g5
  | some O => exact ⟨g5.1, g5.2.1, g5.2.2.2⟩
set_option maxRecDepth 100000 in
theorem AGM_o {a : ac_T} (A : AGM C g a) (h1 : ∀ k j, k ≠ 105 → C'.1 k j = C.1 k j) (h2 : ∀ k j, C'.2.1 k j = C.2.1 k j) : AGM C' g a := ⟨(h1 100 g (by omega)).trans A.1, (h1 101 g (by omega)).trans A.2.1, fun e => ACM_o (A.2.2.1 e) (fun k j hk => h1 k j (by omega)) (fun j => h2 107 j), fun c l e1 e2 e3 => ⟨(h1 102 g (by omega)).trans (A.2.2.2.1 c l e1 e2 e3).1, (h1 113 _ (by omega)).trans (A.2.2.2.1 c l e1 e2 e3).2.1, foM_o (A.2.2.2.1 c l e1 e2 e3).2.2 (fun j => h1 106 j (by omega)) (fun j => h2 107 j)⟩, fun e => by rw [h2 103 g]; exact A.2.2.2.2 e⟩
def PTG (B : Nat → Nat) (n : Nat) (U V : Nat → Prop) (C0 : co_T) (t : ab_H) (g : Nat) (r : pz_T (tr_T × Nat × Option Nat)) : Option Value → ab_H → Nat → Prop := fun v h m => (none = v ∧ (∃ C', (∃ G i' nl', r = .inr (G, i', nl') ∧ kd B n i' ≠ 1 ∧ MS B n U V C0 C' i' nl' ∧ TRM C' g G ∧ C'.1 105 g = C'.1 76 42 ∧ C'.1 76 60 = nI g) ∧ MH C' t = h) ∧ 0 = m) ∨ (none = v ∧ (∃ C', (∃ c j, flS B n (fun x : tr_T × Nat × Option Nat => x.2.1) r c j ∧ FS B n U V C0 C' c j) ∧ MH C' t = h) ∧ 0 = m)
set_option maxRecDepth 100000 in
theorem bd_act (hb : kd B n i = 1) : bdS (rAct (tkP B n) sc pp ti i nl) i := by
  unfold rAct
  rw [if_neg (by show ¬ kd B n i = 21; rw [hb]; decide), if_neg (by show ¬ kd B n i = 32; rw [hb]; decide)]
  unfold rChg
  refine bdS_b ⟨2, ?_⟩
  unfold rEvt
  have : evt ((tkP B n).1 i) = none := by
    show evt (kd B n i) = none
    rw [hb]
    rfl
  rw [this]
set_option maxRecDepth 100000 in
theorem g_399 (hg : g < 8) (hU : U (32 + g)) (M : MS B n U V C0 C i nl) (R : RXM C sc none (some pp)) (S : SCM C sc) (Tp : TRP C g nm pp ti wh) (h60 : C.1 76 60 = nI g) (hti : ti < 2) (hev : pp.2 < 3) : Wd L xs (d + 12) y_236 (399, [(1, .int (nI g)), (0, .ref 176)], [], MH C t, 0) (PTG B n U V C0 t g (rTr3 (tkP B n) sc nm pp ti (wh, i, nl))) nX := by
  unfold rTr3
  refine w_p (pc1 := 400) rfl rfl ?_
  refine w_m0 (pc1 := 403) (st1 := .long 25711 :: _) rfl rfl rfl rfl ?_
  refine w_ji (pc1 := 406) (vs := [.ref 176, .long 25711]) (rest := []) (m_219 (k := 16) (d := _) (by decide) (by decide) rfl M) rfl rfl rfl (fun _ _ => rfl) rfl (by exact cl_v my_219 rfl rfl rfl (Nat.le_of_ble_eq_true rfl) rfl (MH_obj rfl rfl) rfl (by decide) rfl rfl) (by rfl) (Nat.le_of_ble_eq_true rfl) (Nat.le_of_ble_eq_true rfl) rfl (fun v h1 d1 hq => ?_) (fun _ _ _ e => e.elim)
  rcases hq with ⟨hv, ⟨C1, ⟨g1, g2, M1, f1⟩, hh⟩, hn⟩ | ⟨hv, ⟨C1, ⟨c1, j1, g1, F1, f1⟩, hh⟩, hn⟩
  · subst hv; subst hh; subst hn
    refine w_p (pc1 := 407) rfl rfl ?_
    refine w_m0 (pc1 := 410) rfl rfl (h_gI (j := 8) rfl rfl rfl rfl rfl) rfl ?_
    refine w_f (a := 418) (b := 413) (cb_ne_f (by exact M1.2.1.2.1)) rfl rfl ?_
    refine w_p (pc1 := 414) rfl rfl ?_
    refine w_p (pc1 := 415) rfl rfl ?_
    refine w_ji (pc1 := 418) (vs := [.ref 176, .int (nI (g))]) (rest := []) (m_239 (d := _) hg hU M1 (RXM_T R f1) (SCM_T S f1) ((f1.1 97 g (by omega)).trans Tp.1.1) ((f1.1 98 g (by omega)).trans Tp.1.2.1) ((f1.1 99 g (by omega)).trans Tp.1.2.2.1) hti hev) rfl rfl rfl (fun _ _ => rfl) rfl (by exact cl_v my_239 rfl rfl rfl (Nat.le_of_ble_eq_true rfl) rfl (MH_obj rfl rfl) rfl (by decide) rfl rfl) (by rfl) (Nat.le_of_ble_eq_true rfl) (Nat.le_of_ble_eq_true rfl) rfl (fun v h1 d1 hq => ?_) (fun _ _ _ e => e.elim)
    rcases hq with ⟨hv, ⟨C2, ⟨a, i2, nl2, g3, g4, M2, A2, f2⟩, hh⟩, hn⟩ | ⟨hv, ⟨C2, ⟨c2, j2, g3, F2⟩, hh⟩, hn⟩
    · subst hv; subst hh; subst hn
      refine w_p (pc1 := 419) rfl rfl ?_
      refine w_m0 (pc1 := 422) rfl rfl (h_gC rfl rfl rfl rfl) rfl ?_
      refine w_p (pc1 := 423) rfl rfl ?_
      refine w_p (pc1 := 424) rfl rfl ?_
      refine w_m0 (pc1 := 427) (st1 := .int (_) :: _) rfl rfl (h_gIe (j := 42) rfl rfl rfl rfl rfl (rfl)) rfl ?_
      refine w_m0 (pc1 := 428) rfl rfl (n_is (e := g) rfl rfl rfl (by omega)) rfl ?_
      refine w_r rfl rfl rfl (fun _ _ => rfl) rfl ?_
      refine Or.inl ⟨rfl, ⟨_, ⟨_, i2, nl2, by rw [pb_r (show xpP (tkP B n) 16 i = .inr (i + 1) from if_pos g1), pb_r g3], g4, MS_I M2 (sx_g hU (by omega)) (by omega), TRM_mk (TRP_o Tp (fun k hk => ?_) ?_ ?_ (fun j h1 h2 => ⟨?_, ?_⟩)) (AGM_o A2 (fun k j hk => by rw [sI_1, if_neg (by omega)]) (fun _ _ => rfl)), ?_, ?_⟩, rfl⟩, rfl⟩
      · rw [sI_1, if_neg (by omega), f2.1 k g (by omega) (by omega) (by omega) (by omega) (by omega), f1.1 k g (by omega)]
      · show C2.2.1 96 g = _
        rw [f2.2.1 96 g (by omega) (by omega) (by omega) (by omega), f1.2.1 96 g (by omega)]
      · rw [sI_1, if_neg (by omega), f2.1 113 _ (by omega) (by omega) (by omega) (by omega) (by omega), f1.1 113 _ (by omega)]
      · rw [sI_1, if_neg (by omega), f2.1 106 j (by omega) (by omega) (by omega) (by omega) (by omega), f1.1 106 j (by omega)]
      · show C2.2.1 107 j = _
        rw [f2.2.1 107 j (by omega) (by omega) (by omega) (by omega), f1.2.1 107 j (by omega)]
      · rw [sI_1, if_pos ⟨rfl, rfl⟩, sI_1, if_neg (by omega)]
      · rw [sI_1, if_neg (by omega), f2.1 76 60 (by omega) (by omega) (by omega) (by omega) (by omega), f1.1 76 60 (by omega)]
        exact h60
    · subst hv; subst hh; subst hn
      refine w_p (pc1 := 419) rfl rfl ?_
      refine w_m0 (pc1 := 422) rfl rfl (h_gC rfl rfl rfl rfl) rfl ?_
      refine w_p (pc1 := 423) rfl rfl ?_
      refine w_p (pc1 := 424) rfl rfl ?_
      refine w_m0 (pc1 := 427) (st1 := .int (_) :: _) rfl rfl (h_gIe (j := 42) rfl rfl rfl rfl rfl (rfl)) rfl ?_
      refine w_m0 (pc1 := 428) rfl rfl (n_is (e := g) rfl rfl rfl (by omega)) rfl ?_
      refine w_r rfl rfl rfl (fun _ _ => rfl) rfl ?_
      refine Or.inr ⟨rfl, ⟨_, ⟨c2, j2, ?_, FS_I F2 (sx_g hU (by omega)) (by omega)⟩, rfl⟩, rfl⟩
      rw [pb_r (show xpP (tkP B n) 16 i = .inr (i + 1) from if_pos g1)]
      exact flS_c g3 (fun a _ _ => Or.inr ⟨_, rfl, rfl⟩)
  · subst hv; subst hh; subst hn
    refine w_p (pc1 := 407) rfl rfl ?_
    refine w_m0 (pc1 := 410) rfl rfl (h_gI (j := 8) rfl rfl rfl rfl rfl) rfl ?_
    refine w_t (a := 418) (b := 413) (cb_ne_t (by exact FS_0 F1)) rfl rfl ?_
    refine w_p (pc1 := 419) rfl rfl ?_
    refine w_m0 (pc1 := 422) rfl rfl (h_gC rfl rfl rfl rfl) rfl ?_
    refine w_p (pc1 := 423) rfl rfl ?_
    refine w_p (pc1 := 424) rfl rfl ?_
    refine w_m0 (pc1 := 427) (st1 := .int (_) :: _) rfl rfl (h_gIe (j := 42) rfl rfl rfl rfl rfl (rfl)) rfl ?_
    refine w_m0 (pc1 := 428) rfl rfl (n_is (e := g) rfl rfl rfl (by omega)) rfl ?_
    refine w_r rfl rfl rfl (fun _ _ => rfl) rfl ?_
    refine Or.inr ⟨rfl, ⟨_, ⟨c1, j1, flS_b g1 (fun q hq hk => ?_), FS_I F1 (sx_g hU (by omega)) (by omega)⟩, rfl⟩, rfl⟩
    obtain ⟨_, rfl⟩ := xpP_s hq
    exact bdS_b (bd_act hk)
set_option maxRecDepth 100000 in
theorem bd_tr3 {x : Option (List op_T) × Nat × Option Nat} (h : kd B n x.2.1 = 1) : bdS (rTr3 (tkP B n) sc nm pp ti x) x.2.1 := bdS_b (bdS_x h (by decide))
set_option maxRecDepth 100000 in
theorem g_328 (hg : g < 8) (hU : U (32 + g)) (hU2 : U (24 + g)) (M : MS B n U V C0 C i nl) (R : RXM C sc none (some pp)) (S : SCM C sc) (Tp : C.1 97 g = nI pp.1 ∧ C.1 98 g = nI ti ∧ C.1 99 g = nI pp.2 ∧ C.2.1 96 g = nm) (h60 : C.1 76 60 = nI g) (hti : ti < 2) (hev : pp.2 < 3) : Wd L xs (d + 12) y_236 (328, [(1, .int (nI g)), (0, .ref 176)], [], MH C t, 0) (PTG B n U V C0 t g (rTr2 (tkP B n) sc nm pp ti i nl)) nX := by
  unfold rTr2
  by_cases hk : kd B n i = 42
  · have hx : rWhn (tkP B n) sc pp i nl = pb (rFm (fE (tkP B n) sc none (some pp)) 8 (i + 1) nl) (fun x => .inr (some x.1, x.2)) := if_pos hk
    rw [hx, pb_pb]
    have M1 := MS_I (v := 1) M (sx_g (V := V) (k := 104) hU (by omega)) (by omega)
    have k2 : ∀ C2, MS B n U V C0 C2 (i + 1) nl → MS B n U V C0 (sI (sI C2 76 40 (nI (24 + g))) 76 41 0) (i + 1) nl := fun C2 M2 => MS_I (MS_I M2 (sx_76 (by omega)) (by omega)) (sx_76 (by omega)) (by omega)
    have k3 : ∀ C2, frT (sI C 104 g 1) C2 → RXM (sI (sI C2 76 40 (nI (24 + g))) 76 41 0) sc none (some pp) := fun C2 f2 => RXM_o (RXM_T (RXM_1 (k := 104) (j := g) (v := 1) R (by omega)) f2) (fun j _ _ => by rw [sI_1, if_neg (by omega), sI_1, if_neg (by omega)]) (fun j => by rw [sI_1, if_neg (by omega), sI_1, if_neg (by omega)]) (fun _ => rfl)
    refine w_p (pc1 := 329) rfl rfl ?_
    refine w_m0 (pc1 := 332) rfl rfl (h_gC rfl rfl rfl rfl) rfl ?_
    refine w_p (pc1 := 333) rfl rfl ?_
    refine w_p (pc1 := 334) rfl rfl ?_
    refine w_m0 (pc1 := 337) (st1 := .int 0 :: _) rfl rfl (h_gIe (j := 8) rfl rfl rfl rfl rfl (M.2.1.2.1)) rfl ?_
    refine w_f (a := 354) (b := 340) rfl rfl rfl ?_
    refine w_p (pc1 := 341) rfl rfl ?_
    refine w_m0 (pc1 := 344) (st1 := .long 2003330414 :: _) rfl rfl rfl rfl ?_
    refine w_je (pc1 := 347) (vs := [.ref 176, .long 2003330414]) (rest := [.int (nI (g)), .ref 204]) (st1 := [.int 1, .int (nI (g)), .ref 204]) (m_205t (d := _) (sl := 0) ((wd_k (k := 42) M.2.1 (by decide) (by decide)).trans (decide_eq_true hk))) rfl rfl rfl (fun _ _ => rfl) rfl (by exact cl_v my_205 rfl rfl rfl (Nat.le_of_ble_eq_true rfl) rfl (MH_obj rfl rfl) rfl (by decide) rfl rfl) (by rfl) (Nat.le_of_ble_eq_true rfl) (Nat.le_of_ble_eq_true rfl) rfl (by rfl) ?_
    refine w_f (a := 354) (b := 350) rfl rfl rfl ?_
    refine w_p (pc1 := 351) (st1 := .int 1 :: _) rfl rfl ?_
    refine w_p (pc1 := 355) rfl rfl ?_
    refine w_m0 (pc1 := 356) rfl rfl (n_bs (e := g) rfl rfl (by decide) rfl (by omega)) rfl ?_
    refine w_p (pc1 := 357) rfl rfl ?_
    refine w_m0 (pc1 := 360) rfl rfl (h_gC rfl rfl rfl rfl) rfl ?_
    refine w_p (pc1 := 361) rfl rfl ?_
    refine w_m0 (pc1 := 362) (st1 := .int 1 :: _) rfl rfl (n_ble (e := g) rfl rfl (by decide) rfl (by omega) (by rw [sI_1, if_pos ⟨rfl, rfl⟩]; rfl)) rfl ?_
    refine w_f (a := 399) (b := 365) rfl rfl rfl ?_
    refine w_p (pc1 := 366) rfl rfl ?_
    refine w_ji (pc1 := 369) (vs := [.ref 176]) (rest := []) (nS (d := _) M1 (by rw [hk]; decide)) rfl rfl rfl (fun _ _ => rfl) rfl (by exact cl_v my_195 rfl rfl rfl (Nat.le_of_ble_eq_true rfl) rfl (MH_obj rfl rfl) rfl (by decide) rfl rfl) (by rfl) (Nat.le_of_ble_eq_true rfl) (Nat.le_of_ble_eq_true rfl) rfl (fun v h1 d1 hq => ?_) (fun _ _ _ e => e.elim)
    rcases hq with ⟨hv, ⟨C2, ⟨g2, M2, f2⟩, hh⟩, hn⟩ | ⟨hv, ⟨C2, ⟨g2, F2, f2⟩, hh⟩, hn⟩
    · subst hv; subst hh; subst hn
      refine w_p (pc1 := 370) rfl rfl ?_
      refine w_p (pc1 := 372) (st1 := .int 24 :: _) rfl rfl ?_
      refine w_p (pc1 := 373) rfl rfl ?_
      refine w_iadd (pc1 := 374) (u := nI (24)) (v := nI (g)) (z := nI (24 + g)) rfl (nK_add) rfl ?_
      refine w_m0 (pc1 := 377) rfl rfl (h_pI (j := 40) rfl rfl rfl rfl rfl rfl rfl ⟨rfl, rfl⟩ rfl) rfl ?_
      refine w_p (pc1 := 378) rfl rfl ?_
      refine w_p (pc1 := 379) (st1 := .int 0 :: _) rfl rfl ?_
      refine w_m0 (pc1 := 382) rfl rfl (h_pI (j := 41) rfl rfl rfl rfl rfl rfl rfl ⟨rfl, rfl⟩ rfl) rfl ?_
      refine w_p (pc1 := 383) rfl rfl ?_
      refine w_ji (pc1 := 386) (vs := [.ref 176]) (rest := []) (testS (d := _) (p := 24 + g) (b := 0) (E := fE (tkP B n) sc none (some pp)) (k2 _ M2) (by rw [sI_1, if_neg (by omega), sI_1, if_pos ⟨rfl, rfl⟩]) (by omega) (by rw [sI_1, if_pos ⟨rfl, rfl⟩]; rfl) (by omega) hU2 (eM_R (k3 _ f2))) rfl rfl rfl (fun _ _ => rfl) rfl (by exact cl_v my_223 rfl rfl rfl (Nat.le_of_ble_eq_true rfl) rfl (MH_obj rfl rfl) rfl (by decide) rfl rfl) (by rfl) (Nat.le_of_ble_eq_true rfl) (Nat.le_of_ble_eq_true rfl) rfl (fun v h1 d1 hq => ?_) (fun _ _ _ e => e.elim)
      rcases hq with ⟨hv, ⟨C3, ⟨l, i3, nl3, g3, g4, M3, g5, g6, g7, f3⟩, hh⟩, hn⟩ | ⟨hv, ⟨C3, ⟨c3, j3, g3, F3, g5, u3, g6, g7⟩, hh⟩, hn⟩
      · subst hv; subst hh; subst hn
        refine w_p (pc1 := 387) rfl rfl ?_
        refine w_m0 (pc1 := 390) rfl rfl (h_gC rfl rfl rfl rfl) rfl ?_
        refine w_p (pc1 := 391) rfl rfl ?_
        refine w_m0 (pc1 := 394) (st1 := .int (nI (24 + g)) :: _) rfl rfl (h_gIe (j := 40) rfl rfl rfl rfl rfl (g5.1)) rfl ?_
        refine w_p (pc1 := 395) rfl rfl ?_
        refine w_m0 (pc1 := 398) (st1 := .int (nI (0 + l.length)) :: _) rfl rfl (h_gIe (j := 41) rfl rfl rfl rfl rfl (g5.2)) rfl ?_
        refine w_m0 (pc1 := 399) rfl rfl (n_is (e := 24 + g) rfl rfl rfl (by omega)) rfl ?_
        rw [pb_r g3]
        have e1 : ∀ k j, ¬ (k = 76 ∧ (3 ≤ j ∧ j ≤ 9 ∨ 40 ≤ j ∧ j ≤ 45 ∨ j = 52)) → k ≠ 106 → k ≠ 108 → k ≠ 113 → k ≠ 104 → (sI C3 113 (24 + g) (nI (0 + l.length))).1 k j = C.1 k j := fun k j h1 h2 h3 h4 h5 => by rw [sI_1, if_neg (by omega), f3.1 k j (by omega) (by omega) (by omega), sI_1, if_neg (by omega), sI_1, if_neg (by omega), f2.1 k j (by omega), sI_1, if_neg (by omega)]
        have e2 : ∀ k j, ¬ (k = 76 ∧ j = 7) → k ≠ 107 → k ≠ 109 → (sI C3 113 (24 + g) (nI (0 + l.length))).2.1 k j = C.2.1 k j := fun k j h1 h2 h3 => (f3.2.1 k j h1 (by omega) (by omega)).trans (f2.2.1 k j h1)
        have e4 : (sI C3 113 (24 + g) (nI (0 + l.length))).1 104 g = 1 := by rw [sI_1, if_neg (by omega), f3.1 104 g (by omega) (by omega) (by omega), sI_1, if_neg (by omega), sI_1, if_neg (by omega), f2.1 104 g (by omega), sI_1, if_pos ⟨rfl, rfl⟩]; rfl
        have h6 := MS_6 M3
        have h7 : l.length ≤ 619 := by omega
        refine g_399 hg hU (MS_I M3 (sx_h hU2 (by omega)) (by omega)) (RXM_o R (fun j h1 h2 => e1 76 j (by omega) (by omega) (by omega) (by omega) (by omega)) (fun j => e1 80 j (by omega) (by omega) (by omega) (by omega) (by omega)) (fun j => e2 81 j (by omega) (by omega) (by omega))) ?_ ⟨⟨(e1 97 g (by omega) (by omega) (by omega) (by omega) (by omega)).trans Tp.1, (e1 98 g (by omega) (by omega) (by omega) (by omega) (by omega)).trans Tp.2.1, (e1 99 g (by omega) (by omega) (by omega) (by omega) (by omega)).trans Tp.2.2.1, (e2 96 g (by omega) (by omega) (by omega)).trans Tp.2.2.2⟩, e4, ?_, h7, foM_o g6 (fun j => by rw [sI_1, if_neg (by omega)]) (fun _ => rfl)⟩ ((e1 76 60 (by omega) (by omega) (by omega) (by omega) (by omega)).trans h60) hti hev
        · intro b hb
          obtain ⟨s1, s2⟩ := S b hb
          refine ⟨(e1 78 b (by omega) (by omega) (by omega) (by omega) (by omega)).trans s1, fun hz => ?_⟩
          obtain ⟨s3, s4, s5, s6⟩ := s2 hz
          exact ⟨(e2 79 b (by omega) (by omega) (by omega)).trans s3, (e1 80 b (by omega) (by omega) (by omega) (by omega) (by omega)).trans s4, s5, fun c hc => (e2 81 _ (by omega) (by omega) (by omega)).trans (s6 c hc)⟩
        · rw [sI_1, if_pos ⟨rfl, rfl⟩, Nat.zero_add]
      · subst hv; subst hh; subst hn
        refine w_p (pc1 := 387) rfl rfl ?_
        refine w_m0 (pc1 := 390) rfl rfl (h_gC rfl rfl rfl rfl) rfl ?_
        refine w_p (pc1 := 391) rfl rfl ?_
        refine w_m0 (pc1 := 394) (st1 := .int (nI (24 + g)) :: _) rfl rfl (h_gIe (j := 40) rfl rfl rfl rfl rfl (g5)) rfl ?_
        refine w_p (pc1 := 395) rfl rfl ?_
        refine w_m0 (pc1 := 398) (st1 := .int (nI (u3)) :: _) rfl rfl (h_gIe (j := 41) rfl rfl rfl rfl rfl (g6)) rfl ?_
        refine w_m0 (pc1 := 399) rfl rfl (n_is (e := 24 + g) rfl rfl rfl (by omega)) rfl ?_
        refine fz_399 hg hU (FS_I F3 (sx_h hU2 (by omega)) (by omega)) (fun C9 F9 => Or.inr ⟨rfl, ⟨_, ⟨c3, j3, flS_b g3 (fun a _ ha => bd_tr3 (x := (some a.1, a.2)) ha), F9⟩, rfl⟩, rfl⟩)
    · subst hv; subst hh; subst hn
      refine w_p (pc1 := 370) rfl rfl ?_
      refine w_p (pc1 := 372) (st1 := .int 24 :: _) rfl rfl ?_
      refine w_p (pc1 := 373) rfl rfl ?_
      refine w_iadd (pc1 := 374) (u := nI (24)) (v := nI (g)) (z := nI (24 + g)) rfl (nK_add) rfl ?_
      refine w_m0 (pc1 := 377) rfl rfl (h_pI (j := 40) rfl rfl rfl rfl rfl rfl rfl ⟨rfl, rfl⟩ rfl) rfl ?_
      refine w_p (pc1 := 378) rfl rfl ?_
      refine w_p (pc1 := 379) (st1 := .int 0 :: _) rfl rfl ?_
      refine w_m0 (pc1 := 382) rfl rfl (h_pI (j := 41) rfl rfl rfl rfl rfl rfl rfl ⟨rfl, rfl⟩ rfl) rfl ?_
      refine w_p (pc1 := 383) rfl rfl ?_
      refine w_ji (pc1 := 386) (vs := [.ref 176]) (rest := []) (testF (d := _) (FS_I (FS_I F2 (sx_76 (by omega)) (by omega)) (sx_76 (by omega)) (by omega)) (by rw [sI_1, if_neg (by omega), sI_1, if_neg (by omega), f2.1 76 52 (by omega), sI_1, if_neg (by omega)]; exact M.2.2.2.1.2)) rfl rfl rfl (fun _ _ => rfl) rfl (by exact cl_v my_223 rfl rfl rfl (Nat.le_of_ble_eq_true rfl) rfl (MH_obj rfl rfl) rfl (by decide) rfl rfl) (by rfl) (Nat.le_of_ble_eq_true rfl) (Nat.le_of_ble_eq_true rfl) rfl (fun v h1 d1 hq => ?_) (fun _ _ _ e => e.elim)
      rcases hq with ⟨hv, ⟨C3, ⟨F3, f3, f4⟩, hh⟩, hn⟩
      · subst hv; subst hh; subst hn
        refine w_p (pc1 := 387) rfl rfl ?_
        refine w_m0 (pc1 := 390) rfl rfl (h_gC rfl rfl rfl rfl) rfl ?_
        refine w_p (pc1 := 391) rfl rfl ?_
        refine w_m0 (pc1 := 394) (st1 := .int (nI (24 + g)) :: _) rfl rfl (h_gIe (j := 40) rfl rfl rfl rfl rfl (f4.trans (by rw [sI_1, if_neg (by omega), sI_1, if_pos ⟨rfl, rfl⟩]))) rfl ?_
        refine w_p (pc1 := 395) rfl rfl ?_
        refine w_m0 (pc1 := 398) (st1 := .int (C3.1 76 41) :: _) rfl rfl (h_gIe (j := 41) rfl rfl rfl rfl rfl (rfl)) rfl ?_
        refine w_m0 (pc1 := 399) rfl rfl (n_is (e := 24 + g) rfl rfl rfl (by omega)) rfl ?_
        obtain ⟨m, hm1, hm2, hm3⟩ := M.2.2.2.2.1.2
        exact fz_399 hg hU (FS_I F3 (sx_h hU2 (by omega)) (by omega)) (fun C9 F9 => Or.inr ⟨rfl, ⟨_, ⟨1, i + 1, flS_1 (bdS_b (bdS_f rfl hm1 hm2 (st1 hm1 hm3 hk (by decide) (by decide)) g2 (Or.inr rfl))) g2, F9⟩, rfl⟩, rfl⟩)
  · have hx : rWhn (tkP B n) sc pp i nl = .inr (none, i, nl) := if_neg hk
    rw [pb_r hx]
    refine w_p (pc1 := 329) rfl rfl ?_
    refine w_m0 (pc1 := 332) rfl rfl (h_gC rfl rfl rfl rfl) rfl ?_
    refine w_p (pc1 := 333) rfl rfl ?_
    refine w_p (pc1 := 334) rfl rfl ?_
    refine w_m0 (pc1 := 337) (st1 := .int 0 :: _) rfl rfl (h_gIe (j := 8) rfl rfl rfl rfl rfl (M.2.1.2.1)) rfl ?_
    refine w_f (a := 354) (b := 340) rfl rfl rfl ?_
    refine w_p (pc1 := 341) rfl rfl ?_
    refine w_m0 (pc1 := 344) (st1 := .long 2003330414 :: _) rfl rfl rfl rfl ?_
    refine w_je (pc1 := 347) (vs := [.ref 176, .long 2003330414]) (rest := [.int (nI (g)), .ref 204]) (st1 := [.int 0, .int (nI (g)), .ref 204]) (m_205f (d := _) (sl := 0) ((wd_k (k := 42) M.2.1 (by decide) (by decide)).trans (decide_eq_false hk))) rfl rfl rfl (fun _ _ => rfl) rfl (by exact cl_v my_205 rfl rfl rfl (Nat.le_of_ble_eq_true rfl) rfl (MH_obj rfl rfl) rfl (by decide) rfl rfl) (by rfl) (Nat.le_of_ble_eq_true rfl) (Nat.le_of_ble_eq_true rfl) rfl (by rfl) ?_
    refine w_t (a := 354) (b := 350) rfl rfl rfl ?_
    refine w_p (pc1 := 355) (st1 := .int 0 :: _) rfl rfl ?_
    refine w_m0 (pc1 := 356) rfl rfl (n_bs (e := g) rfl rfl (by decide) rfl (by omega)) rfl ?_
    refine w_p (pc1 := 357) rfl rfl ?_
    refine w_m0 (pc1 := 360) rfl rfl (h_gC rfl rfl rfl rfl) rfl ?_
    refine w_p (pc1 := 361) rfl rfl ?_
    refine w_m0 (pc1 := 362) (st1 := .int 0 :: _) rfl rfl (n_ble (e := g) rfl rfl (by decide) rfl (by omega) (by rw [sI_1, if_pos ⟨rfl, rfl⟩]; rfl)) rfl ?_
    refine w_t (a := 399) (b := 365) rfl rfl rfl ?_
    exact g_399 hg hU (MS_I M (sx_g hU (by omega)) (by omega)) (RXM_1 R (by omega)) (SCM_1 S (by omega)) ⟨⟨by rw [sI_1, if_neg (by omega)]; exact Tp.1, by rw [sI_1, if_neg (by omega)]; exact Tp.2.1, by rw [sI_1, if_neg (by omega)]; exact Tp.2.2.1, Tp.2.2.2⟩, by show (sI C 104 g 0).1 104 g = 0; rw [sI_1, if_pos ⟨rfl, rfl⟩]⟩ (by rw [sI_1, if_neg (by omega)]; exact h60) hti hev
end MSH
