
/-! THE OTHER SIDE READS STATEMENTS, 7: WHERE; a change -/
section MSC
variable {L : Nat} {xs : Nat → Int32} {B : Nat → Nat} {n : Nat} {C C' C0 C1 : co_T} {t : ab_H} {d i i0 i1 j b e p k w q : Nat} {U V : Nat → Prop} {c : Int32} {sc : sc_T} {row : Option Nat} {tg : Option (Nat × Nat)} {nl : Option Nat} {E : fe_T} {tr : Nat → Option tr_T}
def frA (p : Nat) (C C' : co_T) : Prop := (∀ k j, ¬ (k = 76 ∧ (3 ≤ j ∧ j ≤ 9 ∨ 40 ≤ j ∧ j ≤ 46 ∨ j = 52)) → ¬ (k = 106 ∧ 620 * p ≤ j ∧ j < 620 * p + 620) → k ≠ 108 → ¬ ((110 ≤ k ∧ k ≤ 113) ∧ j = p) → C'.1 k j = C.1 k j) ∧ (∀ k j, ¬ (k = 76 ∧ j = 7) → ¬ (k = 107 ∧ 620 * p ≤ j ∧ j < 620 * p + 620) → k ≠ 109 → C'.2.1 k j = C.2.1 k j) ∧ C'.2.2 = C.2.2
set_option maxRecDepth 100000 in
theorem frA_t {C1 C2 C3 : co_T} (h : frA p C1 C2) (g : frA p C2 C3) : frA p C1 C3 := ⟨fun k j a b c e => (g.1 k j a b c e).trans (h.1 k j a b c e), fun k j a b c => (g.2.1 k j a b c).trans (h.2.1 k j a b c), g.2.2.trans h.2.2⟩
set_option maxRecDepth 100000 in
theorem frA_H (h : fH_y p C C') : frA p C C' := ⟨fun k j a b c _ => h.1 k j (by omega) b c, h.2⟩
set_option maxRecDepth 100000 in
theorem frA_T (h : frT C C') : frA p C C' := frA_H (fHy_T h)
set_option maxRecDepth 100000 in
theorem frA_I {v : Int32} (h : (110 ≤ k ∧ k ≤ 113) ∧ j = p) : frA p C (sI C k j v) := ⟨fun q i _ _ _ d => by rw [sI_1, if_neg (by omega)], fun _ _ _ _ _ => rfl, rfl⟩
set_option maxRecDepth 100000 in
theorem frA_F {v : Int32} (h : 40 ≤ j ∧ j ≤ 46) : frA p C (sI C 76 j v) := ⟨fun q i _ _ _ d => by rw [sI_1, if_neg (by omega)], fun _ _ _ _ _ => rfl, rfl⟩
set_option maxRecDepth 100000 in
theorem sx_h (hU : U p) (h : 110 ≤ k ∧ k ≤ 113) : sxI U V k p := Or.inr (Or.inr (Or.inr (Or.inl ⟨h, hU⟩)))
set_option maxRecDepth 100000 in
theorem RXM_A (R : RXM C sc row tg) (h : frA p C C') (h46 : C'.1 76 46 = C.1 76 46) : RXM C' sc row tg := RXM_o R (fun j h1 h2 => by
  by_cases e : j = 46
  · rw [e]; exact h46
  · exact h.1 76 j (by omega) (by omega) (by omega) (by omega)) (fun j => h.1 80 j (by omega) (by omega) (by omega) (by omega)) (fun j => h.2.1 81 j (by omega) (by omega) (by omega))
set_option maxRecDepth 100000 in
theorem SCM_A (S : SCM C sc) (h : frA p C C') : SCM C' sc := fun b hb => ⟨(h.1 78 b (by omega) (by omega) (by omega) (by omega)).trans (S b hb).1, fun hz => by
  obtain ⟨h1, h2, h3, h4⟩ := (S b hb).2 hz
  exact ⟨(h.2.1 79 b (by omega) (by omega) (by omega)).trans h1, (h.1 80 b (by omega) (by omega) (by omega) (by omega)).trans h2, h3, fun c hc => (h.2.1 81 _ (by omega) (by omega) (by omega)).trans (h4 c hc)⟩⟩
set_option maxRecDepth 100000 in
theorem foM_o {l : List op_T} (h : foM C p b l) (h1 : ∀ j, C'.1 106 j = C.1 106 j) (h2 : ∀ j, C'.2.1 107 j = C.2.1 107 j) : foM C' p b l := fun j q hq => by rw [h1, h2]; exact h j q hq
set_option maxRecDepth 100000 in
theorem itM_o {l : List it_T} (h : itM C p b l) (h1 : ∀ j, C'.1 106 j = C.1 106 j) (h2 : ∀ j, C'.2.1 107 j = C.2.1 107 j) : itM C' p b l := fun j q hq => by
  have := h j q hq
  rw [h1, h2]
  exact this
set_option maxRecDepth 100000 in
theorem m_238f (F : FS B n U V C0 C c i) : Wd L xs (d + 1) y_238 (0, [(0, .ref 176)], [], MH C t, 0) (Rt (some (.int 0)) (MH C t) 0) nX := by
  refine w_p (pc1 := 1) rfl rfl ?_
  refine w_je (pc1 := 4) (vs := [.ref 176]) (rest := []) (st1 := [.int 0]) (m_207f (d := _) F) rfl rfl rfl (fun _ _ => rfl) rfl (by exact cl_v my_207 rfl rfl rfl (Nat.le_of_ble_eq_true rfl) rfl (MH_obj rfl rfl) rfl (by decide) rfl rfl) (by rfl) (Nat.le_of_ble_eq_true rfl) (Nat.le_of_ble_eq_true rfl) rfl (by rfl) ?_
  refine w_f (a := 9) (b := 7) rfl rfl rfl ?_
  refine w_p (pc1 := 8) (st1 := .int 0 :: _) rfl rfl ?_
  refine w_r rfl rfl rfl (fun _ _ => rfl) cr_int ?_
  exact ⟨rfl, rfl, rfl⟩
/-! WHERE -/
def rWh (K : tv2) (E : fe_T) (i : Nat) (nl : Option Nat) : pz_T (Option (List op_T) × Nat × Option Nat) := if K.1 i = 43 then pb (rFm E 8 (i + 1) nl) (fun x => .inr (some x.1, x.2)) else .inr (none, i, nl)
set_option maxRecDepth 100000 in
theorem rWhr_e {K : tv2} {s : (List Nat × List (Option (List op_T))) × Nat × Option Nat} : rWhr K sc tg e b s = pb (rWh K (fE K sc (some b) tg) s.2.1 s.2.2) (fun x => .inr ((e, some b, s.1.1, s.1.2, x.1, 0), x.2)) := by
  unfold rWhr rWh
  by_cases h : K.1 s.2.1 = 43
  · rw [if_pos h, if_pos h, pb_pb]
    rfl
  · rw [if_neg h, if_neg h]
    rfl
def PWH (B : Nat → Nat) (n : Nat) (U V : Nat → Prop) (C0 C : co_T) (t : ab_H) (p : Nat) (a : List it_T) (r : pz_T (Option (List op_T) × Nat × Option Nat)) : Option Value → ab_H → Nat → Prop := fun v h m => (none = v ∧ (∃ C', (∃ wh i' nl', r = .inr (wh, i', nl') ∧ kd B n i' ≠ 1 ∧ MS B n U V C0 C' i' nl' ∧ whM C' p a.length wh ∧ itM C' p 0 a ∧ frA p C C' ∧ (C'.1 110 p = C.1 110 p ∧ C'.1 111 p = C.1 111 p)) ∧ MH C' t = h) ∧ 0 = m) ∨ (none = v ∧ (∃ C', (∃ c j, flS B n (fun x : Option (List op_T) × Nat × Option Nat => x.2.1) r c j ∧ FS B n U V C0 C' c j) ∧ MH C' t = h) ∧ 0 = m)
variable {a : List it_T} {x : Int32} {P : Option Value → ab_H → Nat → Prop}
set_option maxRecDepth 100000 in
theorem e240X (F : FS B n U V C0 C c i) (hU : U p) (hp4 : p ≤ 40) (H : ∀ C', FS B n U V C0 C' c i → P none (MH C' t) 0) : Wd L xs d y_240 (151, [(3, .int (nI b)), (2, .int x), (0, .ref 176), (1, .int (nI p))], [], MH C t, 0) P nX := by
  have F1 : FS B n U V C0 (sI C 113 p (C.1 76 41)) c i := FS_I F (sx_h hU (by omega)) (by omega)
  refine w_p (pc1 := 152) rfl rfl ?_
  refine w_m0 (pc1 := 155) rfl rfl (h_gC rfl rfl rfl rfl) rfl ?_
  refine w_p (pc1 := 156) rfl rfl ?_
  refine w_p (pc1 := 157) rfl rfl ?_
  refine w_m0 (pc1 := 160) (st1 := .int (C.1 76 41) :: _) rfl rfl (h_gIe (j := 41) rfl rfl rfl rfl rfl (rfl)) rfl ?_
  refine w_m0 (pc1 := 161) rfl rfl (n_is (e := p) rfl rfl rfl (by omega)) rfl ?_
  refine w_r rfl rfl rfl (fun _ _ => rfl) rfl ?_
  exact H _ F1
set_option maxRecDepth 100000 in
theorem e240W (hU : U p) (hp4 : p ≤ 40) (M : MS B n U V C0 C i nl) (R : RXM C sc (some b) tg) (I : ITM C p a (i + 1)) (h112 : C.1 112 p = -1) : Wd L xs (d + 10) y_240 (116, [(3, .int (nI b)), (2, .int x), (0, .ref 176), (1, .int (nI p))], [], MH C t, 0) (PWH B n U V C0 C t p a (rWh (tkP B n) (fE (tkP B n) sc (some b) tg) i nl)) nX := by
  have hk1 : kd B n i ≠ 1 := M.2.1.1
  have hi6 := MS_6 M
  have hl5 := I.2.2.2
  by_cases hk : kd B n i = 43
  · have hr : rWh (tkP B n) (fE (tkP B n) sc (some b) tg) i nl = pb (rFm (fE (tkP B n) sc (some b) tg) 8 (i + 1) nl) (fun x => .inr (some x.1, x.2)) := if_pos hk
    rw [hr]
    have M2 : ∀ C1, MS B n U V C0 C1 (i + 1) nl → MS B n U V C0 (sI C1 112 p (nI a.length)) (i + 1) nl := fun C1 M1 => MS_I M1 (sx_h hU (by omega)) (by omega)
    have R2 : ∀ C1, frT C C1 → RXM (sI C1 112 p (nI a.length)) sc (some b) tg := fun C1 f1 => RXM_A (p := p) R (frA_t (frA_T f1) (frA_I (by omega))) (f1.1 76 46 (by omega))
    refine w_p (pc1 := 117) rfl rfl ?_
    refine w_m0 (pc1 := 120) (st1 := .int 0 :: _) rfl rfl (h_gIe (j := 8) rfl rfl rfl rfl rfl (M.2.1.2.1)) rfl ?_
    refine w_f (a := 151) (b := 123) rfl rfl rfl ?_
    refine w_p (pc1 := 124) rfl rfl ?_
    refine w_m0 (pc1 := 127) (st1 := .long 512852587109 :: _) rfl rfl rfl rfl ?_
    refine w_je (pc1 := 130) (vs := [.ref 176, .long 512852587109]) (rest := []) (st1 := [.int 1]) (m_205t (d := _) (sl := 0) ((wd_k (k := 43) M.2.1 (by decide) (by decide)).trans (decide_eq_true hk))) rfl rfl rfl (fun _ _ => rfl) rfl (by exact cl_v my_205 rfl rfl rfl (Nat.le_of_ble_eq_true rfl) rfl (MH_obj rfl rfl) rfl (by decide) rfl rfl) (by rfl) (Nat.le_of_ble_eq_true rfl) (Nat.le_of_ble_eq_true rfl) rfl (by rfl) ?_
    refine w_f (a := 151) (b := 133) rfl rfl rfl ?_
    refine w_p (pc1 := 134) rfl rfl ?_
    refine w_ji (pc1 := 137) (vs := [.ref 176]) (rest := []) (nS (d := _) M (by rw [hk]; decide)) rfl rfl rfl (fun _ _ => rfl) rfl (by exact cl_v my_195 rfl rfl rfl (Nat.le_of_ble_eq_true rfl) rfl (MH_obj rfl rfl) rfl (by decide) rfl rfl) (by rfl) (Nat.le_of_ble_eq_true rfl) (Nat.le_of_ble_eq_true rfl) rfl (fun v h1 d1 hq => ?_) (fun _ _ _ e => e.elim)
    rcases hq with ⟨hv, ⟨C1, ⟨g1, M1, f1⟩, hh⟩, hn⟩ | ⟨hv, ⟨C1, ⟨g1, F1, f1⟩, hh⟩, hn⟩
    · subst hv; subst hh; subst hn
      refine w_p (pc1 := 138) rfl rfl ?_
      refine w_m0 (pc1 := 141) rfl rfl (h_gC rfl rfl rfl rfl) rfl ?_
      refine w_p (pc1 := 142) rfl rfl ?_
      refine w_p (pc1 := 143) rfl rfl ?_
      refine w_m0 (pc1 := 146) (st1 := .int (nI (a.length)) :: _) rfl rfl (h_gIe (j := 41) rfl rfl rfl rfl rfl ((f1.1 76 41 (by omega)).trans I.2.1)) rfl ?_
      refine w_m0 (pc1 := 147) rfl rfl (n_is (e := p) rfl rfl rfl (by omega)) rfl ?_
      refine w_p (pc1 := 148) rfl rfl ?_
      refine w_ji (pc1 := 151) (vs := [.ref 176]) (rest := []) (testS (d := _) (p := p) (b := a.length) (E := fE (tkP B n) sc (some b) tg) (M2 _ M1) ((f1.1 76 40 (by omega)).trans I.1) hp4 ((f1.1 76 41 (by omega)).trans I.2.1) (by omega) hU (eM_R (R2 _ f1))) rfl rfl rfl (fun _ _ => rfl) rfl (by exact cl_v my_223 rfl rfl rfl (Nat.le_of_ble_eq_true rfl) rfl (MH_obj rfl rfl) rfl (by decide) rfl rfl) (by rfl) (Nat.le_of_ble_eq_true rfl) (Nat.le_of_ble_eq_true rfl) rfl (fun v h1 d1 hq => ?_) (fun _ _ _ e => e.elim)
      rcases hq with ⟨hv, ⟨C3, ⟨l, i3, nl3, g4, g5, M3, g6, g7, g8, f3⟩, hh⟩, hn⟩ | ⟨hv, ⟨C3, ⟨c3, j3, g4, F3, g6, u3, g7, g8⟩, hh⟩, hn⟩
      · subst hv; subst hh; subst hn
        refine w_p (pc1 := 152) rfl rfl ?_
        refine w_m0 (pc1 := 155) rfl rfl (h_gC rfl rfl rfl rfl) rfl ?_
        refine w_p (pc1 := 156) rfl rfl ?_
        refine w_p (pc1 := 157) rfl rfl ?_
        refine w_m0 (pc1 := 160) (st1 := .int (nI (a.length + l.length)) :: _) rfl rfl (h_gIe (j := 41) rfl rfl rfl rfl rfl (g6.2)) rfl ?_
        refine w_m0 (pc1 := 161) rfl rfl (n_is (e := p) rfl rfl rfl (by omega)) rfl ?_
        refine w_r rfl rfl rfl (fun _ _ => rfl) rfl ?_
        refine Or.inl ⟨rfl, ⟨_, ⟨some l, i3, nl3, by rw [pb_r g4], g5, MS_I M3 (sx_h hU (by omega)) (by omega), ⟨?_, ?_, ?_, ?_⟩, ?_, ?_, ?_⟩, rfl⟩, rfl⟩
        · show (sI C3 113 p _).1 112 p = _
          rw [sI_1, if_neg (by omega), f3.1 112 p (by omega) (by omega) (by omega), sI_1, if_pos ⟨rfl, rfl⟩]
        · show (sI C3 113 p _).1 113 p = _
          rw [sI_1, if_pos ⟨rfl, rfl⟩]
        · have := MS_6 M3
          omega
        · exact foM_o g7 (fun j => by rw [sI_1, if_neg (by omega)]) (fun _ => rfl)
        · refine itM_o (itM_G (itM_o (C' := sI C1 112 p (nI a.length)) I.2.2.1 (fun j => ?_) (fun j => ?_)) f3) (fun j => by rw [sI_1, if_neg (by omega)]) (fun _ => rfl)
          · rw [sI_1, if_neg (by omega), f1.1 106 j (by omega)]
          · exact f1.2.1 107 j (by omega)
        · exact frA_t (frA_T f1) (frA_t (frA_I (k := 112) (by omega)) (frA_t (frA_H (fHy_G f3)) (frA_I (k := 113) (by omega))))
        · refine ⟨?_, ?_⟩
          · rw [sI_1, if_neg (by omega), f3.1 110 p (by omega) (by omega) (by omega), sI_1, if_neg (by omega), f1.1 110 p (by omega)]
          · rw [sI_1, if_neg (by omega), f3.1 111 p (by omega) (by omega) (by omega), sI_1, if_neg (by omega), f1.1 111 p (by omega)]
      · subst hv; subst hh; subst hn
        exact e240X F3 hU hp4 (fun C4 F4 => Or.inr ⟨rfl, ⟨_, ⟨c3, j3, flS_c g4 (fun a _ _ => Or.inr ⟨_, rfl, rfl⟩), F4⟩, rfl⟩, rfl⟩)
    · subst hv; subst hh; subst hn
      refine w_p (pc1 := 138) rfl rfl ?_
      refine w_m0 (pc1 := 141) rfl rfl (h_gC rfl rfl rfl rfl) rfl ?_
      refine w_p (pc1 := 142) rfl rfl ?_
      refine w_p (pc1 := 143) rfl rfl ?_
      refine w_m0 (pc1 := 146) (st1 := .int (nI (a.length)) :: _) rfl rfl (h_gIe (j := 41) rfl rfl rfl rfl rfl ((f1.1 76 41 (by omega)).trans I.2.1)) rfl ?_
      refine w_m0 (pc1 := 147) rfl rfl (n_is (e := p) rfl rfl rfl (by omega)) rfl ?_
      refine w_p (pc1 := 148) rfl rfl ?_
      refine w_ji (pc1 := 151) (vs := [.ref 176]) (rest := []) (testF (d := _) (FS_I F1 (sx_h hU (by omega)) (by omega)) ((f1.1 76 52 (by omega)).trans M.2.2.2.1.2)) rfl rfl rfl (fun _ _ => rfl) rfl (by exact cl_v my_223 rfl rfl rfl (Nat.le_of_ble_eq_true rfl) rfl (MH_obj rfl rfl) rfl (by decide) rfl rfl) (by rfl) (Nat.le_of_ble_eq_true rfl) (Nat.le_of_ble_eq_true rfl) rfl (fun v h1 d1 hq => ?_) (fun _ _ _ e => e.elim)
      rcases hq with ⟨hv, ⟨C3, ⟨F3, f3⟩, hh⟩, hn⟩
      · subst hv; subst hh; subst hn
        refine e240X F3 hU hp4 (fun C4 F4 => Or.inr ⟨rfl, ⟨_, ⟨1, i + 1, flS_1 (bdS_b ?_) g1, F4⟩, rfl⟩, rfl⟩)
        obtain ⟨m, hm1, hm2, hm3⟩ := M.2.2.2.2.1.2
        exact bdS_f rfl hm1 hm2 (st1 hm1 hm3 hk (by decide) (by decide)) g1 (Or.inr rfl)
  · have hr : rWh (tkP B n) (fE (tkP B n) sc (some b) tg) i nl = .inr (none, i, nl) := if_neg hk
    rw [hr]
    refine w_p (pc1 := 117) rfl rfl ?_
    refine w_m0 (pc1 := 120) (st1 := .int 0 :: _) rfl rfl (h_gIe (j := 8) rfl rfl rfl rfl rfl (M.2.1.2.1)) rfl ?_
    refine w_f (a := 151) (b := 123) rfl rfl rfl ?_
    refine w_p (pc1 := 124) rfl rfl ?_
    refine w_m0 (pc1 := 127) (st1 := .long 512852587109 :: _) rfl rfl rfl rfl ?_
    refine w_je (pc1 := 130) (vs := [.ref 176, .long 512852587109]) (rest := []) (st1 := [.int 0]) (m_205f (d := _) (sl := 0) ((wd_k (k := 43) M.2.1 (by decide) (by decide)).trans (decide_eq_false hk))) rfl rfl rfl (fun _ _ => rfl) rfl (by exact cl_v my_205 rfl rfl rfl (Nat.le_of_ble_eq_true rfl) rfl (MH_obj rfl rfl) rfl (by decide) rfl rfl) (by rfl) (Nat.le_of_ble_eq_true rfl) (Nat.le_of_ble_eq_true rfl) rfl (by rfl) ?_
    refine w_t (a := 151) (b := 133) rfl rfl rfl ?_
    refine w_p (pc1 := 152) rfl rfl ?_
    refine w_m0 (pc1 := 155) rfl rfl (h_gC rfl rfl rfl rfl) rfl ?_
    refine w_p (pc1 := 156) rfl rfl ?_
    refine w_p (pc1 := 157) rfl rfl ?_
    refine w_m0 (pc1 := 160) (st1 := .int (nI (a.length)) :: _) rfl rfl (h_gIe (j := 41) rfl rfl rfl rfl rfl (I.2.1)) rfl ?_
    refine w_m0 (pc1 := 161) rfl rfl (n_is (e := p) rfl rfl rfl (by omega)) rfl ?_
    refine w_r rfl rfl rfl (fun _ _ => rfl) rfl ?_
    refine Or.inl ⟨rfl, ⟨_, ⟨none, i, nl, rfl, hk1, MS_I M (sx_h hU (by omega)) (by omega), ⟨?_, ?_⟩, ?_, frA_I (by omega), ?_⟩, rfl⟩, rfl⟩
    · show (sI C 113 p _).1 112 p = _
      rw [sI_1, if_neg (by omega)]
      exact h112
    · show (sI C 113 p _).1 113 p = _
      rw [sI_1, if_pos ⟨rfl, rfl⟩]
    · exact itM_o I.2.2.1 (fun j => by rw [sI_1, if_neg (by omega)]) (fun _ => rfl)
    · exact ⟨by rw [sI_1, if_neg (by omega)], by rw [sI_1, if_neg (by omega)]⟩
end MSC
