
/-! HOW A CHANGE ENDS, on the other side -/
/-! what speaks of tables, rules and triggers alone -/
def sgE (C C' : co_T) : Prop := (∀ k j, 77 ≤ k → k < 115 → C'.1 k j = C.1 k j) ∧ (∀ k j, 77 ≤ k → k < 115 → C'.2.1 k j = C.2.1 k j)
set_option maxRecDepth 100000 in
theorem foM_c {p a : Nat} {C C' : co_T} {O : List op_T} (h : sgE C C') (F : foM C p a O) : foM C' p a O := by
  intro j q hj
  rw [h.1 106 _ (by omega) (by omega), h.2 107 _ (by omega) (by omega)]
  exact F j q hj
set_option maxRecDepth 100000 in
theorem itM_cc {p a : Nat} {C C' : co_T} {O : List it_T} (h : sgE C C') (F : itM C p a O) : itM C' p a O := by
  intro j q hj
  rw [h.1 106 _ (by omega) (by omega), h.2 107 _ (by omega) (by omega)]
  exact F j q hj
set_option maxRecDepth 100000 in
theorem whM_c {p a : Nat} {C C' : co_T} (h : sgE C C') : ∀ {O : Option (List op_T)}, whM C p a O → whM C' p a O
  | none, e => ⟨(h.1 112 p (by omega) (by omega)).trans e.1, (h.1 113 p (by omega) (by omega)).trans e.2⟩
  | some O, e => ⟨(h.1 112 p (by omega) (by omega)).trans e.1, (h.1 113 p (by omega) (by omega)).trans e.2.1, e.2.2.1, foM_c h e.2.2.2⟩
set_option maxRecDepth 100000 in
theorem ACM_c {p : Nat} {C C' : co_T} {a : ac_T} (h : sgE C C') (A : ACM C p a) : ACM C' p a := ⟨(h.1 110 p (by omega) (by omega)).trans A.1, (h.1 111 p (by omega) (by omega)).trans A.2.1, fun e => ⟨(h.1 113 p (by omega) (by omega)).trans (A.2.2.1 e).1, (A.2.2.1 e).2.1, itM_cc h (A.2.2.1 e).2.2⟩, fun e => ⟨(A.2.2.2.1 e).1, itM_cc h (A.2.2.2.1 e).2.1, whM_c h (A.2.2.2.1 e).2.2⟩, fun e => whM_c h (A.2.2.2.2 e)⟩
set_option maxRecDepth 100000 in
theorem RUM_c {r : Nat} {C C' : co_T} {u : ru_T} (h : sgE C C') (U : RUM C r u) : RUM C' r u := by
  have e := h.1
  obtain ⟨⟨h1, h2, h3, h4, h5, h6⟩, ⟨h7, h8, h9⟩, h10, h11⟩ := U
  refine ⟨⟨?_, ?_, ?_, ?_, fun j c hj => ?_, fun j c hj => ?_⟩, ⟨?_, ?_, ?_⟩, fun O hO => ⟨?_, foM_c h (h10 O hO).2.1, ?_⟩, fun hn => ?_⟩
  · rw [e 84 _ (by omega) (by omega)]; exact h1
  · rw [e 85 _ (by omega) (by omega)]; exact h2
  · rw [e 86 _ (by omega) (by omega)]; exact h3
  · rw [e 87 _ (by omega) (by omega)]; exact h4
  · rw [e 88 _ (by omega) (by omega)]; exact h5 j c hj
  · rw [e 89 _ (by omega) (by omega)]; exact h6 j c hj
  · rw [e 90 _ (by omega) (by omega)]; exact h7
  · rw [e 92 _ (by omega) (by omega)]; exact h8
  · rw [e 93 _ (by omega) (by omega)]; exact h9
  · rw [e 113 _ (by omega) (by omega)]; exact (h10 O hO).1
  · rw [e 94 _ (by omega) (by omega)]; exact (h10 O hO).2.2
  · rw [e 94 _ (by omega) (by omega)]; exact h11 hn
set_option maxRecDepth 100000 in
theorem TRM_c {g : Nat} {C C' : co_T} {G : tr_T} (h : sgE C C') (U : TRM C g G) : TRM C' g G := by
  have e := h.1
  have e2 := h.2
  obtain ⟨⟨h1, h2, h3, h4, h5, h6⟩, h7, h8, h9, h10⟩ := U
  refine ⟨⟨?_, ?_, ?_, ?_, ?_, ?_⟩, ?_, fun q => ACM_c h (h8 q), fun c l q1 q2 q3 => ⟨?_, ?_, foM_c h (h9 c l q1 q2 q3).2.2⟩, fun q => ?_⟩
  · rw [e 97 _ (by omega) (by omega)]; exact h1
  · rw [e 98 _ (by omega) (by omega)]; exact h2
  · rw [e 99 _ (by omega) (by omega)]; exact h3
  · rw [e 100 _ (by omega) (by omega)]; exact h4
  · rw [e 101 _ (by omega) (by omega)]; exact h5
  · rw [e2 96 _ (by omega) (by omega)]; exact h6
  · cases hw : gWh G with
    | none =>
      rw [hw] at h7
      rw [e 104 _ (by omega) (by omega)]
      exact h7
    | some O =>
      rw [hw] at h7
      exact ⟨(e 104 _ (by omega) (by omega)).trans h7.1, (e 113 _ (by omega) (by omega)).trans h7.2.1, foM_c h h7.2.2⟩
  · rw [e 102 _ (by omega) (by omega)]; exact (h9 c l q1 q2 q3).1
  · rw [e 113 _ (by omega) (by omega)]; exact (h9 c l q1 q2 q3).2.1
  · rw [e2 103 _ (by omega) (by omega)]; exact h10 q
set_option maxRecDepth 100000 in
theorem MSt_c {C C' : co_T} {S : st_T} (h : sgE C C') (K : MSt C S) : MSt C' S := by
  obtain ⟨h1, h2, h3⟩ := K
  exact ⟨fun b hb => ⟨fun hp => (h.1 80 b (by omega) (by omega)).trans ((h1 b hb).1 hp), fun c hc => (h.2 82 _ (by omega) (by omega)).trans ((h1 b hb).2 c hc)⟩, fun i hi => opM_m (fun u => RUM_c h) (h.1 83 i (by omega) (by omega)) (h2 i hi), fun i hi => opM_m (fun u => TRM_c h) (h.1 95 i (by omega) (by omega)) (h3 i hi)⟩
/-! what a change leaves alone there -/
def frM (C C' : co_T) : Prop := (∀ k j, ¬ (k = 115 ∨ k = 117 ∨ k = 118) → ¬ (k = 119 ∧ j < 240) → ¬ ((k = 121 ∨ k = 122) ∧ j < 6) → ¬ (k = 76 ∧ (j = 73 ∨ j = 74 ∨ j = 75 ∨ j = 89 ∨ j = 90 ∨ j = 91 ∨ j = 93 ∨ j = 94 ∨ j = 95)) → ¬ (125 ≤ k ∧ k ≤ 135) → C'.1 k j = C.1 k j) ∧ (∀ k j, ¬ (k = 116 ∨ k = 124 ∨ k = 138) → ¬ (k = 120 ∧ j < 1440) → ¬ (k = 76 ∧ j = 92) → ¬ (k = 136 ∨ k = 137) → C'.2.1 k j = C.2.1 k j) ∧ C'.2.2 = C.2.2
set_option maxRecDepth 100000 in
theorem frM_t {C1 C2 C3 : co_T} (h : frM C1 C2) (g : frM C2 C3) : frM C1 C3 := ⟨fun k j a b c d e => (g.1 k j a b c d e).trans (h.1 k j a b c d e), fun k j a b c d => (g.2.1 k j a b c d).trans (h.2.1 k j a b c d), g.2.2.trans h.2.2⟩
set_option maxRecDepth 100000 in
theorem frM_r {C : co_T} : frM C C := ⟨fun _ _ _ _ _ _ _ => rfl, fun _ _ _ _ _ _ => rfl, rfl⟩
set_option maxRecDepth 100000 in
theorem frM_Q {f : Nat} {C C' : co_T} (h : frQ f C C') : frM C C' := ⟨fun k j a _ _ d e => h.1 k j a d (by omega) (by omega), fun k j a _ c d => h.2.1 k j a c (by omega), h.2.2⟩
set_option maxRecDepth 100000 in
theorem frM_k {C C' : co_T} (h : SLC 119 (240 * 0) (1440 * 0) (6 * 0) 115 0 0 0 C C') : frM C C' := ⟨fun k j a b c _ _ => h.1 k j (by omega) (by omega), fun k j a b _ _ => h.2.2.2.1 k j (by omega), h.2.2.2.2.2⟩
set_option maxRecDepth 100000 in
theorem frM_b {C C' : co_T} (h : SLC 115 0 0 0 119 (240 * 0) (1440 * 0) (6 * 0) C C') : frM C C' := ⟨fun k j a b c _ _ => h.1 k j (by omega) (by omega), fun k j a b _ _ => h.2.2.2.1 k j (by omega), h.2.2.2.2.2⟩
set_option maxRecDepth 100000 in
theorem frM_s {C C' : co_T} (h : frM C C') : sgE C C' := ⟨fun k j _ _ => h.1 k j (by omega) (by omega) (by omega) (by omega) (by omega), fun k j _ _ => h.2.1 k j (by omega) (by omega) (by omega) (by omega)⟩
section MCH
variable {L : Nat} {xs : Nat → Int32} {C C0 : co_T} {t : ab_H} {d sl w0 : Nat} {S : st_T} {rs : rs_T} {a : ac_T} {wt : Nat → Bool}
def CMP (C : co_T) (t : ab_H) (sl : Nat) (S : st_T) (x : ce_T) : Option Value → ab_H → Nat → Prop := fun v h m => some (.int (nI x.1.1)) = v ∧ (∃ C', ((RWM C' (sWd S) x.2.1 ∧ ∀ q, q < 6 → C'.1 118 q = (x.2.1 q).2 + 1) ∧ (C'.1 76 93 = nI x.2.2.1 ∧ C'.1 76 95 = nI x.2.2.2) ∧ ((x.1.1 = 2 → C'.1 76 90 = x.1.2.1 ∧ C'.1 76 91 = x.1.2.2) ∧ (x.1.1 = 3 → (C'.2.1 76 92).toInt32 = x.1.2.1)) ∧ (∃ y, C'.1 76 74 = ck y) ∧ frM C C') ∧ MH C' t = h) ∧ sl = m
/-! how goOn ends -/
def GOP (C : co_T) (t : ab_H) (wd : Nat → Nat) (r : rz_T) : Option Value → ab_H → Nat → Prop := fun v h m => none = v ∧ (∃ C', ((r.2 = none ∧ MEn C' wd r.1 0 0) ∨ (∃ e, r.2 = some e ∧ MX C' r.1 ∧ spM C' e ∧ ∃ y, C'.1 76 74 = ck y)) ∧ frQ 0 C C' ∧ MH C' t = h) ∧ 0 = m
set_option maxRecDepth 100000 in
theorem goM {C' : co_T} (ho : okSt S) {σ : es_T} (K : MSt C S) (A : ACM C 40 a) (E : MEn C (sWd S) σ 0 0) (hk : aKd a < 3) (hok : okA2 (sWd S) w0 0 0 a) (hB : BCd C C' 0 40 0 (bcX noF noF σ a)) : Wd L xs (d + 8) y_257 (0, [(0, .ref 176)], [], MH C' t, 0) (GOP C t (sWd S) (chg S (stp S 12) a noF noF σ)) nX := by
  refine bcM (m := 12) (F := 0) (D := 0) (row := 0) (w2 := 0) (w3 := 0) (fun n _ => STPM_all ho n) rfl ho (Nat.le_refl _) (by decide) K A E hk hok (Or.inr ⟨rfl, rfl, by decide⟩) (by decide) (by decide) (fun c hc => absurd hc (by omega)) (fun c hc => absurd hc (by omega)) hB ⟨fun h C1 e1 e2 => ?_, fun e C1 h1 h2 h3 h4 h5 => ?_⟩
  · exact go0 e1.2.2.2.2.1.1 ⟨rfl, ⟨C1, Or.inl ⟨h, e1⟩, e2, rfl⟩, rfl⟩
  · exact ⟨rfl, ⟨C1, Or.inr ⟨e, h1, h2, h3, h4⟩, h5, rfl⟩, rfl⟩
set_option maxRecDepth 100000 in
theorem m_248 (ho : okSt S) (K : MSt C S) (W : RWM C (sWd S) rs) (hnx : ∀ q, q < 6 → C.1 118 q = (rs q).2 + 1) (A : ACM C 40 a) (hok : okA2 (sWd S) w0 0 0 a) (hk : aKd a < 3) (h89 : C.1 76 89 = 0) (h74 : C.1 76 74 = 0) (h93 : C.1 76 93 = 0) (h95 : C.1 76 95 = 0) (hw : ∀ i, i < 24 → C.1 91 i = ck (wt i)) : Wd L xs (d + 9) y_248 (0, [(0, .ref 176)], [], MH C t, sl) (CMP C t sl S (chgR S a rs (fun i => !wt i))) nX := by
  have hkp := m_249 (L := L) (xs := xs) (C := C) (t := t) (d := d + 8) (sl := 0) (s := 0) (by decide)
  refine w_p (pc1 := 1) rfl rfl ?_
  refine w_p (pc1 := 2) (st1 := .int 0 :: _) rfl rfl ?_
  refine w_ji (pc1 := 5) (vs := [.ref 176, .int 0]) (rest := []) (hkp) rfl rfl rfl (fun _ _ => rfl) rfl (by exact cl_v my_249 rfl rfl rfl (Nat.le_of_ble_eq_true rfl) rfl (MH_obj rfl rfl) rfl (by decide) rfl rfl) (by rfl) (Nat.le_of_ble_eq_true rfl) (Nat.le_of_ble_eq_true rfl) rfl (fun v h m hq => ?_) (fun _ _ _ e => e.elim)
  obtain ⟨rfl, ⟨C1, hS1, rfl⟩, rfl⟩ := hq
  refine w_p (pc1 := 6) rfl rfl ?_
  refine w_p (pc1 := 7) (st1 := .int 0 :: _) rfl rfl ?_
  refine w_m0 (pc1 := 10) rfl rfl (h_pI (j := 75) rfl rfl rfl rfl rfl rfl rfl ⟨rfl, rfl⟩ rfl) rfl ?_
  refine w_p (pc1 := 11) rfl rfl ?_
  refine w_p (pc1 := 12) (st1 := .int 0 :: _) rfl rfl ?_
  refine w_m0 (pc1 := 15) rfl rfl (h_pI (j := 94) rfl rfl rfl rfl rfl rfl rfl ⟨rfl, rfl⟩ rfl) rfl ?_
  have f1 := frM_k hS1
  have f2 : frM C (sI (sI C1 76 75 0) 76 94 0) := frM_t f1 (frM_t (frM_Q (f := 0) (frQ_I (by omega))) (frM_Q (f := 0) (frQ_I (by omega))))
  have W0 : RWs C 115 0 0 0 (sWd S) rs := RWs_M.mpr ⟨W, hnx⟩
  have Wk := SLC_W hS1 W0
  have eR : ∀ k j, k = 115 ∨ k = 117 ∨ k = 118 → C1.1 k j = C.1 k j := fun k j h => hS1.1 k j (by omega) (by omega)
  have W1 : RWM (sI (sI C1 76 75 0) 76 94 0) (sWd S) rs := RWM_V (C := C) ⟨fun j => by rw [sI_1, if_neg (by omega), sI_1, if_neg (by omega)]; exact eR 115 j (by omega), fun j => by rw [sI_1, if_neg (by omega), sI_1, if_neg (by omega)]; exact eR 117 j (by omega), fun j => by rw [sI_1, if_neg (by omega), sI_1, if_neg (by omega)]; exact eR 118 j (by omega), fun j => hS1.2.2.2.1 116 j (by omega)⟩ W
  have e76 : ∀ j, j ≠ 75 → j ≠ 94 → (sI (sI C1 76 75 0) 76 94 0).1 76 j = C.1 76 j := fun j h1 h2 => by rw [sI_1, if_neg (by omega), sI_1, if_neg (by omega)]; exact hS1.1 76 j (by omega) (by omega)
  have E1 : MEn (sI (sI C1 76 75 0) 76 94 0) (sWd S) (rs, 0, 0) 0 0 := ⟨W1, fun q hq => by rw [sI_1, if_neg (by omega), sI_1, if_neg (by omega), eR 118 q (by omega)]; exact hnx q hq, ⟨(e76 93 (by decide) (by decide)).trans h93, Nat.zero_le _, (e76 95 (by decide) (by decide)).trans h95, Nat.zero_le _⟩, ⟨rfl, by decide⟩, ⟨rfl, by decide⟩, (e76 89 (by decide) (by decide)).trans h89, (e76 74 (by decide) (by decide)).trans h74⟩
  have K1 := MSt_c (frM_s f2) K
  have A1 := ACM_c (frM_s f2) A
  have Wk2 : RWs (sI (sI C1 76 75 0) 76 94 0) 119 (240 * 0) (1440 * 0) (6 * 0) (sWd S) rs := Wk
  generalize hC2 : sI (sI C1 76 75 0) 76 94 0 = C2 at f2 W1 E1 K1 A1 Wk2
  have hbc := bcA (L := L) (xs := xs) (t := t) (d := d + 4) (sl := 0) (F := 0) (p := 40) (row := 0) (w2 := 0) (w3 := 0) (N := noF) (O := noF) (σ := (rs, 0, 0)) E1.2.2.2.2.1.1 (by decide) (by decide) W1 E1.2.2.2.2.2.1 E1.2.2.2.2.2.2 A1 hk hok (Or.inr ⟨rfl, rfl, by decide⟩) (by decide) (by decide) (fun c hc => absurd hc (by omega)) (fun c hc => absurd hc (by omega))
  have hgo := fun C3 hB => goM (L := L) (xs := xs) (t := t) (d := d) (C' := C3) ho K1 A1 E1 hk hok hB
  have hcr : chgR S a rs (fun i => !wt i) = match (chg S (stp S 12) a noF noF (rs, 0, 0)).2 with | some e => (e, rs, (chg S (stp S 12) a noF noF (rs, 0, 0)).1.2) | none => (match lkR S (chg S (stp S 12) a noF noF (rs, 0, 0)).1.1 (fun i => !wt i) (rng 0 24) with | none => ((0, 0, 0), (chg S (stp S 12) a noF noF (rs, 0, 0)).1.1, (chg S (stp S 12) a noF noF (rs, 0, 0)).1.2) | some (i, id) => ((2, nI i, id), rs, (chg S (stp S 12) a noF noF (rs, 0, 0)).1.2)) := rfl
  have hoe := chg_ok (S := S) (a := a) (N := noF) (O := noF) (σ := (rs, 0, 0)) (stp_ok (S := S) 12)
  generalize hr : chg S (stp S 12) a noF noF (rs, 0, 0) = r at hgo hcr hoe
  obtain ⟨σ1, ro⟩ := r
  have hbb : ∀ C5, frQ 0 C2 C5 → ∀ C6, SLC 115 0 0 0 119 (240 * 0) (1440 * 0) (6 * 0) C5 C6 → RWM C6 (sWd S) rs ∧ ∀ q, q < 6 → C6.1 118 q = (rs q).2 + 1 := fun C5 q5 C6 h6 => by
      have Wk5 : RWs C5 119 (240 * 0) (1440 * 0) (6 * 0) (sWd S) rs := by
        have x1 : ∀ j, C5.2.1 120 j = C2.2.1 120 j := fun j => q5.2.1 120 j (by omega) (by omega) (by omega)
        have x2 : ∀ k j, k = 119 ∨ k = 121 ∨ k = 122 → C5.1 k j = C2.1 k j := fun k j h => q5.1 k j (by omega) (by omega) (by omega) (by omega)
        refine ⟨fun b hb => ?_, fun q hq => (x2 122 _ (by omega)).trans (Wk2.2 q hq)⟩
        obtain ⟨y1, y2, y3, y4⟩ := Wk2.1 b hb
        exact ⟨y1, (x2 121 _ (by omega)).trans y2, y3, fun k r hr => ⟨(x2 119 _ (by omega)).trans (y4 k r hr).1, fun c hc => (x1 _).trans ((y4 k r hr).2 c hc)⟩⟩
      exact RWs_M.mp (SLC_W h6 Wk5)
  refine w_p (pc1 := 16) rfl rfl ?_
  refine w_p (pc1 := 18) (st1 := .int 40 :: _) rfl rfl ?_
  refine w_p (pc1 := 19) (st1 := .int 0 :: _) rfl rfl ?_
  refine w_ji (pc1 := 22) (vs := [.ref 176, .int 40, .int 0]) (rest := []) (hbc) rfl rfl rfl (fun _ _ => rfl) rfl (by exact cl_v my_250 rfl rfl rfl (Nat.le_of_ble_eq_true rfl) rfl (MH_obj rfl rfl) rfl (by decide) rfl rfl) (by rfl) (Nat.le_of_ble_eq_true rfl) (Nat.le_of_ble_eq_true rfl) rfl (fun v h m hq => ?_) (fun _ _ _ e => e.elim)
  obtain ⟨rfl, ⟨C3, hB3, rfl⟩, rfl⟩ := hq
  refine w_p (pc1 := 23) rfl rfl ?_
  refine w_ji (pc1 := 26) (vs := [.ref 176]) (rest := []) (hgo C3 hB3) rfl rfl rfl (fun _ _ => rfl) rfl (by exact cl_v my_257 rfl rfl rfl (Nat.le_of_ble_eq_true rfl) rfl (MH_obj rfl rfl) rfl (by decide) rfl rfl) (by rfl) (Nat.le_of_ble_eq_true rfl) (Nat.le_of_ble_eq_true rfl) rfl (fun v h m hq => ?_) (fun _ _ _ e => e.elim)
  obtain ⟨rfl, ⟨C4, hc4, q4, rfl⟩, rfl⟩ := hq
  have f4 := frM_t f2 (frM_Q q4)
  rcases hc4 with ⟨hn0, E4⟩ | ⟨e, he, hX4, hs4, hy4⟩
  · have hn0 : ro = none := hn0
    subst hn0
    have hlk := m_273_1 (L := L) (xs := xs) (t := t) (d := d + 2) (sl := 0) (wt := wt) (z := false) E4.1 (MSt_c (frM_s f4) K) ho (fun j hj => (f4.1 91 j (by omega) (by omega) (by omega) (by omega) (by omega)).trans (hw j hj)) E4.2.2.2.2.2.2
    cases hx : lkR S σ1.1 (fun i => !wt i) (rng 0 24) with
    | none =>
      have hcr : chgR S a rs (fun i => !wt i) = ((0, 0, 0), σ1.1, σ1.2) := by rw [hcr, hx]
      rw [hcr]
      rw [hx] at hlk
      have hlk : Wd L xs (d + 8) y_273 (0, [(0, .ref 176), (1, .int 1)], [], MH C4 t, 0) (fun v h m => some (.int 0) = v ∧ (∃ C', frZ C4 C' ∧ MH C' t = h) ∧ 0 = m) nX := hlk
      refine w_p (pc1 := 27) rfl rfl ?_
      refine w_m0 (pc1 := 30) (st1 := .int 0 :: _) rfl rfl (h_gIe (j := 89) rfl rfl rfl rfl rfl (E4.2.2.2.2.2.1)) rfl ?_
      refine w_f (a := 46) (b := 33) rfl rfl rfl ?_
      refine w_p (pc1 := 34) rfl rfl ?_
      refine w_p (pc1 := 35) (st1 := .int 1 :: _) rfl rfl ?_
      refine w_ji (pc1 := 38) (vs := [.ref 176, .int 1]) (rest := []) (hlk) rfl rfl rfl (fun _ _ => rfl) rfl (by exact cl_v my_273 rfl rfl rfl (Nat.le_of_ble_eq_true rfl) rfl (MH_obj rfl rfl) rfl (by decide) rfl rfl) (by rfl) (Nat.le_of_ble_eq_true rfl) (Nat.le_of_ble_eq_true rfl) rfl (fun v h m hq => ?_) (fun _ _ _ e => e.elim)
      obtain ⟨rfl, ⟨C5, f5, rfl⟩, rfl⟩ := hq
      have h895 : C5.1 76 89 = 0 := (f5.1.1 76 89 (by omega)).trans E4.2.2.2.2.2.1
      refine w_t (a := 46) (b := 41) rfl rfl rfl ?_
      refine w_p (pc1 := 47) rfl rfl ?_
      refine w_m0 (pc1 := 50) (st1 := .int 0 :: _) rfl rfl (h_gIe (j := 89) rfl rfl rfl rfl rfl (h895)) rfl ?_
      refine w_t (a := 58) (b := 53) rfl rfl rfl ?_
      refine w_p (pc1 := 59) rfl rfl ?_
      refine w_m0 (pc1 := 62) (st1 := .int 0 :: _) rfl rfl (h_gIe (j := 89) rfl rfl rfl rfl rfl (h895)) rfl ?_
      refine w_r rfl rfl rfl (fun _ _ => rfl) cr_int ?_
      refine ⟨rfl, ⟨C5, ⟨⟨RWM_f f5.1 E4.1, fun q hq => (f5.1.1 118 q (by omega)).trans (E4.2.1 q hq)⟩, ⟨(f5.1.1 76 93 (by omega)).trans E4.2.2.1.1, (f5.1.1 76 95 (by omega)).trans E4.2.2.1.2.2.1⟩, ⟨fun h => absurd h (by show 0 ≠ 2; decide), fun h => absurd h (by show 0 ≠ 3; decide)⟩, ⟨false, f5.2.trans E4.2.2.2.2.2.2⟩, frM_t f4 (frM_Q (f := 0) (frQ_W f5.1))⟩, rfl⟩, rfl⟩
    | some y =>
      obtain ⟨i, id⟩ := y
      have hcr : chgR S a rs (fun i => !wt i) = ((2, nI i, id), rs, σ1.2) := by rw [hcr, hx]
      rw [hcr]
      rw [hx] at hlk
      have hlk : Wd L xs (d + 8) y_273 (0, [(0, .ref 176), (1, .int 1)], [], MH C4 t, 0) (fun v h m => some (.int 1) = v ∧ (∃ C', frZ C4 C' ∧ MH (sI (sI C' 76 90 (nI i)) 76 91 id) t = h) ∧ 0 = m) nX := hlk
      refine w_p (pc1 := 27) rfl rfl ?_
      refine w_m0 (pc1 := 30) (st1 := .int 0 :: _) rfl rfl (h_gIe (j := 89) rfl rfl rfl rfl rfl (E4.2.2.2.2.2.1)) rfl ?_
      refine w_f (a := 46) (b := 33) rfl rfl rfl ?_
      refine w_p (pc1 := 34) rfl rfl ?_
      refine w_p (pc1 := 35) (st1 := .int 1 :: _) rfl rfl ?_
      refine w_ji (pc1 := 38) (vs := [.ref 176, .int 1]) (rest := []) (hlk) rfl rfl rfl (fun _ _ => rfl) rfl (by exact cl_v my_273 rfl rfl rfl (Nat.le_of_ble_eq_true rfl) rfl (MH_obj rfl rfl) rfl (by decide) rfl rfl) (by rfl) (Nat.le_of_ble_eq_true rfl) (Nat.le_of_ble_eq_true rfl) rfl (fun v h m hq => ?_) (fun _ _ _ e => e.elim)
      obtain ⟨rfl, ⟨C5, f5, rfl⟩, rfl⟩ := hq
      have hbk := m_278 (L := L) (xs := xs) (C := sI (sI (sI C5 76 90 (nI i)) 76 91 id) 76 89 2) (t := t) (d := d + 8) (sl := 0) (s := 0) (by decide)
      refine w_f (a := 46) (b := 41) rfl rfl rfl ?_
      refine w_p (pc1 := 42) rfl rfl ?_
      refine w_p (pc1 := 43) (st1 := .int 2 :: _) rfl rfl ?_
      refine w_m0 (pc1 := 46) rfl rfl (h_pI (j := 89) rfl rfl rfl rfl rfl rfl rfl ⟨rfl, rfl⟩ rfl) rfl ?_
      refine w_p (pc1 := 47) rfl rfl ?_
      refine w_m0 (pc1 := 50) (st1 := .int 2 :: _) rfl rfl (h_gIe (j := 89) rfl rfl rfl rfl rfl (rfl)) rfl ?_
      refine w_f (a := 58) (b := 53) rfl rfl rfl ?_
      refine w_p (pc1 := 54) rfl rfl ?_
      refine w_p (pc1 := 55) (st1 := .int 0 :: _) rfl rfl ?_
      refine w_ji (pc1 := 58) (vs := [.ref 176, .int 0]) (rest := []) (hbk) rfl rfl rfl (fun _ _ => rfl) rfl (by exact cl_v my_278 rfl rfl rfl (Nat.le_of_ble_eq_true rfl) rfl (MH_obj rfl rfl) rfl (by decide) rfl rfl) (by rfl) (Nat.le_of_ble_eq_true rfl) (Nat.le_of_ble_eq_true rfl) rfl (fun v h m hq => ?_) (fun _ _ _ e => e.elim)
      obtain ⟨rfl, ⟨C7, h7, rfl⟩, rfl⟩ := hq
      have h897 : C7.1 76 89 = 2 := h7.1 76 89 (by omega) (by omega)
      refine w_p (pc1 := 59) rfl rfl ?_
      refine w_m0 (pc1 := 62) (st1 := .int 2 :: _) rfl rfl (h_gIe (j := 89) rfl rfl rfl rfl rfl (h897)) rfl ?_
      refine w_r rfl rfl rfl (fun _ _ => rfl) cr_int ?_
      have q6 : frQ 0 C4 (sI (sI (sI C5 76 90 (nI i)) 76 91 id) 76 89 2) := frQ_t (frQ_W f5.1) (frQ_t (frQ_I (by omega)) (frQ_t (frQ_I (by omega)) (frQ_I (by omega))))
      have hrb := hbb _ (frQ_t q4 q6) C7 h7
      have e7 : ∀ j, C7.1 76 j = (sI (sI (sI C5 76 90 (nI i)) 76 91 id) 76 89 2).1 76 j := fun j => h7.1 76 j (by omega) (by omega)
      refine ⟨rfl, ⟨C7, ⟨hrb, ⟨(e7 93).trans ((f5.1.1 76 93 (by omega)).trans E4.2.2.1.1), (e7 95).trans ((f5.1.1 76 95 (by omega)).trans E4.2.2.1.2.2.1)⟩, ⟨fun _ => ⟨e7 90, e7 91⟩, fun h => absurd h (by show 2 ≠ 3; decide)⟩, ⟨false, (e7 74).trans (f5.2.trans E4.2.2.2.2.2.2)⟩, frM_t f4 (frM_t (frM_Q q6) (frM_b h7))⟩, rfl⟩, rfl⟩
  · have he : ro = some e := he
    subst he
    have hcr : chgR S a rs (fun i => !wt i) = (e, rs, σ1.2) := hcr
    rw [hcr]
    have hoe := hoe e rfl
    have hbk := m_278 (L := L) (xs := xs) (C := C4) (t := t) (d := d + 8) (sl := 0) (s := 0) (by decide)
    refine w_p (pc1 := 27) rfl rfl ?_
    refine w_m0 (pc1 := 30) (st1 := .int (nI (e.1)) :: _) rfl rfl (h_gIe (j := 89) rfl rfl rfl rfl rfl (hs4.1)) rfl ?_
    refine w_t (a := 46) (b := 33) (bN_ne_t (a := e.1) (b := 0) (by omega) (by omega) (by omega)) rfl rfl ?_
    refine w_p (pc1 := 47) rfl rfl ?_
    refine w_m0 (pc1 := 50) (st1 := .int (nI (e.1)) :: _) rfl rfl (h_gIe (j := 89) rfl rfl rfl rfl rfl (hs4.1)) rfl ?_
    refine w_f (a := 58) (b := 53) (bN_le_f (a := e.1) (b := 0) (by omega) (by omega) (by omega)) rfl rfl ?_
    refine w_p (pc1 := 54) rfl rfl ?_
    refine w_p (pc1 := 55) (st1 := .int 0 :: _) rfl rfl ?_
    refine w_ji (pc1 := 58) (vs := [.ref 176, .int 0]) (rest := []) (hbk) rfl rfl rfl (fun _ _ => rfl) rfl (by exact cl_v my_278 rfl rfl rfl (Nat.le_of_ble_eq_true rfl) rfl (MH_obj rfl rfl) rfl (by decide) rfl rfl) (by rfl) (Nat.le_of_ble_eq_true rfl) (Nat.le_of_ble_eq_true rfl) rfl (fun v h m hq => ?_) (fun _ _ _ e => e.elim)
    obtain ⟨rfl, ⟨C7, h7, rfl⟩, rfl⟩ := hq
    have h897 : C7.1 76 89 = nI e.1 := (h7.1 76 89 (by omega) (by omega)).trans hs4.1
    refine w_p (pc1 := 59) rfl rfl ?_
    refine w_m0 (pc1 := 62) (st1 := .int (nI (e.1)) :: _) rfl rfl (h_gIe (j := 89) rfl rfl rfl rfl rfl (h897)) rfl ?_
    refine w_r rfl rfl rfl (fun _ _ => rfl) cr_int ?_
    have hrb := hbb _ q4 C7 h7
    have e7 : ∀ j, C7.1 76 j = C4.1 76 j := fun j => h7.1 76 j (by omega) (by omega)
    refine ⟨rfl, ⟨C7, ⟨hrb, ⟨(e7 93).trans hX4.1, (e7 95).trans hX4.2.2.1⟩, ⟨fun h => ⟨(e7 90).trans (hs4.2.1 h).1, (e7 91).trans (hs4.2.1 h).2⟩, fun h => by rw [h7.2.2.2.1 76 92 (by omega)]; exact hs4.2.2 h⟩, ?_, frM_t f4 (frM_b h7)⟩, rfl⟩, rfl⟩
    obtain ⟨y, hy⟩ := hy4
    exact ⟨y, (e7 74).trans hy⟩
end MCH
