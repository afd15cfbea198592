
/-! THE OTHER SIDE AND THE WORLD: COMMIT, ROLLBACK, LATER, NOW, MARK -/
section MVD
variable {L : Nat} {xs : Nat → Int32} {B : Nat → Nat} {n m d sl b g : Nat} {C C' C1 C2 C3 : co_T} {t : ab_H} {W : wo_T} {rs : rs_T} {a : Int32} {v : Int64}
set_option maxRecDepth 100000 in
theorem MI_en (hst : stO C C') (h69 : C'.1 76 69 = 0) (h70 : C'.1 76 70 = 0) (h91 : ∀ j, j < 24 → C'.1 91 j = 0) (hR : MRo C' (wW W) rs) (hz : ∃ z, C'.1 76 74 = ck z) (H : MI C W) : MI C' (wT W, wG W, rs, enD (wX W)) :=
  ⟨MSc_O (W := W) hst H.1, hR, ⟨h69, MWt_a (fun j hj => h91 j hj), h70, Nat.zero_le 6, fun j hj => absurd hj (Nat.not_lt_zero j)⟩, ⟨fun z => (by cases z), fun j hj => absurd hj (Nat.not_lt_zero j)⟩, hz⟩
set_option maxRecDepth 100000 in
theorem lkM_1 {x : Option (Nat × Int32)} {k j : Nat} (h : ¬ (k = 76 ∧ (j = 90 ∨ j = 91))) : (lkM C x).1 k j = C.1 k j := by
  cases x with
  | none => rfl
  | some e =>
    obtain ⟨e1, e2⟩ := e
    show (sI (sI C 76 90 (nI e1)) 76 91 e2).1 k j = _
    rw [sI_1, if_neg (by omega), sI_1, if_neg (by omega)]
set_option maxRecDepth 100000 in
theorem lkM_2 {x : Option (Nat × Int32)} : (lkM C x).2 = C.2 := by
  cases x with
  | none => rfl
  | some e => rfl
set_option maxRecDepth 100000 in
theorem lkM_s {e : Nat × Int32} : (lkM C (some e)).1 76 90 = nI e.1 ∧ (lkM C (some e)).1 76 91 = e.2 := by
  obtain ⟨e1, e2⟩ := e
  exact ⟨rfl, rfl⟩
set_option maxRecDepth 100000 in
theorem ov_1 {k j : Nat} (h : ¬ (k = 76 ∧ (j = 69 ∨ j = 70))) : (ovC C).1 k j = C.1 k j := by
  show (sI (sI C 76 69 0) 76 70 0).1 k j = _
  rw [sI_1, if_neg (by omega), sI_1, if_neg (by omega)]
set_option maxRecDepth 100000 in
theorem MRo_c {wd : Nat → Nat} (h1 : ∀ k j, 115 ≤ k ∧ k ≤ 118 → C'.1 k j = C.1 k j) (h2 : ∀ j, C'.2.1 116 j = C.2.1 116 j) (R : MRo C wd rs) : MRo C' wd rs := ⟨fun b hb => by
  obtain ⟨a1, a2, a3, a4⟩ := R.1 b hb
  exact ⟨a1, (h1 117 b (by omega)).trans a2, a3, fun k r hr => ⟨(h1 115 _ (by omega)).trans (a4 k r hr).1, fun c hc => (h2 _).trans ((a4 k r hr).2 c hc)⟩⟩, fun q hq => (h1 118 q (by omega)).trans (R.2 q hq)⟩
set_option maxRecDepth 100000 in
theorem me_13 {C0 : co_T} (hup : upE C0 C) (hA : wAll W) (hW : wOk (xCom W).2.2) (h97 : C.1 76 97 = 7) (H : MI C W) (hf : C.1 76 8 = 0) (h0 : C.1 76 89 = 0 ∧ C.1 76 74 = 0 ∧ C.1 76 93 = 0 ∧ C.1 76 95 = 0) : Wd L xs (d + 20) y_191 (51, [(1, .int (nI (totF (wR W) 6 0 0))), (0, .ref 176)], [], MH C t, sl) (PRm C0 t W sl (xCom W)) nX := by
  have H1 := MI_1 (j := 2) (v := 0) (by omega) H
  have e : ∀ j, j ≠ 2 → (sI C 76 2 0).1 76 j = C.1 76 j := fun j hj => e2_o hj
  have h97' : C.1 76 97 = nI 7 := h97
  cases hx : xIn (wX W) with
  | false =>
    rw [xCom_out hx]
    exact mNo (s := 7) hup hA.1 H hf h0 h97' (Or.inl ⟨by omega, by omega, hx⟩)
  | true =>
    have hu : C.1 76 69 = 1 := by rw [H.2.2.1.1, hx]; rfl
    refine i_191 (d := d + 19) (s := 7) hf h97' (by omega) (by omega) hu (m_279_7 (d := d + 12) (sl := 0) (S := wS W) (rs := wR W) (z := false) ((e 97 (by omega)).trans h97) H1.2.1.1 (MSt_I hA.1 H1.1) (okSt_w hA.1) ((e 74 (by omega)).trans h0.2.1)) (fun v h q hq => ?_)
    obtain ⟨⟨Ca, Cb, fz, hor, rfl⟩, rfl⟩ := hq
    have za : ∀ k j, ¬ (k = 76 ∧ (j = 2 ∨ j = 73)) → Ca.1 k j = C.1 k j := fun k j h => by
      by_cases z : k = 76 ∧ j = 74
      · rw [z.1, z.2, fz.2, e 74 (by omega)]
      · rw [fz.1.1 k j (by omega), sI_1, if_neg (by omega)]
    have z2 : Ca.1 76 2 = 0 := by rw [fz.1.1 76 2 (by omega), sI_1, if_pos ⟨rfl, rfl⟩]
    have zj : ∀ k j, k ≠ 124 → Ca.2.1 k j = C.2.1 k j := fun k j h => fz.1.2.1 k j h
    rcases hor with ⟨x, hl, rfl, C2, s1, f1⟩ | ⟨hl, rfl, f1⟩
    · rw [xCom_s hx hl] at hW ⊢
      have ci : ∀ k j, ¬ (k = 76 ∧ (j = 2 ∨ j = 69 ∨ j = 70 ∨ j = 73 ∨ j = 90 ∨ j = 91)) → ¬ (115 ≤ k ∧ k ≤ 118) → k ≠ 91 → Cb.1 k j = C.1 k j := fun k j h1 h2 h3 => (f1.1 k j (by omega)).trans ((ov_1 (by omega)).trans ((s1.1 k j (by omega) (by omega)).trans ((lkM_1 (by omega)).trans (za k j (by omega)))))
      have cf : ∀ j, j ≠ 69 → j ≠ 70 → Cb.1 76 j = (lkM Ca (some x)).1 76 j := fun j h1 h2 => (f1.1 76 j (by omega)).trans ((ov_1 (by omega)).trans (s1.1 76 j (by omega) (by omega)))
      have cj : ∀ k j, k ≠ 116 → k ≠ 124 → Cb.2.1 k j = C.2.1 k j := fun k j h1 h2 => (by rw [f1.2.2]; exact (s1.2.2.2.1 k j (by omega)).trans ((by rw [lkM_2] : (lkM Ca (some x)).2.1 k j = Ca.2.1 k j).trans (zj k j h2)))
      have R0 : RWs (lkM Ca (some x)) 119 (240 * 1) (1440 * 1) (6 * 1) (wW W) (x0 (wX W)) := RWs_c (fun i _ => (lkM_1 (by omega)).trans (za _ _ (by omega))) (fun i _ => (by rw [lkM_2]; exact zj _ _ (by omega))) (fun i _ => ⟨(lkM_1 (by omega)).trans (za _ _ (by omega)), (lkM_1 (by omega)).trans (za _ _ (by omega))⟩) (H.2.2.2.1.1 hx)
      have R1 : MRo C2 (wW W) (x0 (wX W)) := MRo_s (SLC_W s1 R0)
      exact ⟨nI 2, Cb, t, rfl, rfl, mEnd (d := d + 19) (r := (2, vv (nI x.1) x.2 0 0 0, (wT W, wG W, x0 (wX W), enD (wX W)))) (upE_t hup (upE_k (fun k j hk => ci k j (by omega) (by omega) (by omega)) (fun k j hk => cj k j (by omega) (by omega)) (by rw [f1.2.2]; exact s1.2.2.2.2.2.trans ((by rw [lkM_2] : (lkM Ca (some x)).2.2 = Ca.2.2).trans fz.1.2.2)))) hW (by show 2 < 8; omega) (MI_en (C := C) ⟨fun k j a b c => ci k j (by omega) (by omega) c, fun k j a b => cj k j (by omega) (by omega), ci 76 48 (by omega) (by omega) (by omega), ci 76 49 (by omega) (by omega) (by omega)⟩ ((f1.1 76 69 (by omega)).trans rfl) ((f1.1 76 70 (by omega)).trans rfl) (fun j hj => f1.2.1 j hj) (MRo_c (C := C2) (fun k j hk => (f1.1 k j (by omega)).trans (ov_1 (by omega))) (fun j => (by rw [f1.2.2]; rfl)) R1) ⟨false, (cf 74 (by omega) (by omega)).trans ((lkM_1 (by omega)).trans ((za 76 74 (by omega)).trans h0.2.1))⟩ H) ⟨fun z => (by cases z), fun _ => ⟨(cf 90 (by omega) (by omega)).trans lkM_s.1, (cf 91 (by omega) (by omega)).trans lkM_s.2⟩, fun z => (by cases z), (ci 76 93 (by omega) (by omega) (by omega)).trans h0.2.2.1, (ci 76 95 (by omega) (by omega) (by omega)).trans h0.2.2.2⟩ ((cf 2 (by omega) (by omega)).trans ((lkM_1 (by omega)).trans z2))⟩
    · rw [xCom_n hx hl] at hW ⊢
      have ci : ∀ k j, ¬ (k = 76 ∧ (j = 2 ∨ j = 69 ∨ j = 70 ∨ j = 73)) → k ≠ 91 → Cb.1 k j = C.1 k j := fun k j h1 h3 => (f1.1 k j (by omega)).trans ((ov_1 (by omega)).trans (za k j (by omega)))
      have cj : ∀ k j, k ≠ 124 → Cb.2.1 k j = C.2.1 k j := fun k j h2 => (by rw [f1.2.2]; exact zj k j h2)
      exact ⟨nI 0, Cb, t, rfl, rfl, mEnd (d := d + 19) (r := xOk (wT W, wG W, wR W, enD (wX W))) (upE_t hup (upE_k (fun k j hk => ci k j (by omega) (by omega)) (fun k j hk => cj k j (by omega)) (by rw [f1.2.2]; exact fz.1.2.2))) hW (by show 0 < 8; omega) (MI_en (C := C) ⟨fun k j a b c => ci k j (by omega) c, fun k j a b => cj k j (by omega), ci 76 48 (by omega) (by omega), ci 76 49 (by omega) (by omega)⟩ ((f1.1 76 69 (by omega)).trans rfl) ((f1.1 76 70 (by omega)).trans rfl) (fun j hj => f1.2.1 j hj) (MRo_c (C := C) (fun k j hk => ci k j (by omega) (by omega)) (fun j => cj 116 j (by omega)) H.2.1) ⟨false, (ci 76 74 (by omega) (by omega)).trans h0.2.1⟩ H) (vM0 (Or.inl rfl) ((ci 76 93 (by omega) (by omega)).trans h0.2.2.1) ((ci 76 95 (by omega) (by omega)).trans h0.2.2.2)) ((f1.1 76 2 (by omega)).trans ((ov_1 (by omega)).trans z2))⟩
set_option maxRecDepth 100000 in
theorem me_8 {C0 : co_T} (hup : upE C0 C) (hA : wAll W) (hW : wOk (xBck W a).2.2) (ha : a = -1 ∨ ∃ s, a = nI s ∧ s < (xMk (wX W)).1 ∧ a.toNatClampNeg = s) (hQ : (a = -1 ∧ C.1 76 97 = 8) ∨ (a ≠ -1 ∧ C.1 76 97 = 9 ∧ C.1 76 98 = a)) (H : MI C W) (hf : C.1 76 8 = 0) (h0 : C.1 76 89 = 0 ∧ C.1 76 74 = 0 ∧ C.1 76 93 = 0 ∧ C.1 76 95 = 0) : Wd L xs (d + 20) y_191 (51, [(1, .int (nI (totF (wR W) 6 0 0))), (0, .ref 176)], [], MH C t, sl) (PRm C0 t W sl (xBck W a)) nX := by
  have H1 := MI_1 (j := 2) (v := 0) (by omega) H
  have e : ∀ j, j ≠ 2 → (sI C 76 2 0).1 76 j = C.1 76 j := fun j hj => e2_o hj
  have e0 : ∀ k j, ¬ (k = 76 ∧ j = 2) → (sI C 76 2 0).1 k j = C.1 k j := fun k j h => by rw [sI_1, if_neg h]
  cases hx : xIn (wX W) with
  | false =>
    rw [xBck_out hx]
    rcases hQ with ⟨_, q⟩ | ⟨_, q, _⟩
    · exact mNo (s := 8) hup hA.1 H hf h0 q (Or.inl ⟨by omega, by omega, hx⟩)
    · exact mNo (s := 9) hup hA.1 H hf h0 q (Or.inl ⟨by omega, by omega, hx⟩)
  | true =>
    have hu : C.1 76 69 = 1 := by rw [H.2.2.1.1, hx]; rfl
    rcases hQ with ⟨rfl, q⟩ | ⟨hne, q, q2⟩
    · rw [xBck_n hx] at hW ⊢
      refine i_191 (d := d + 19) (s := 8) hf q (by omega) (by omega) hu (m_279_8 (d := d + 12) (sl := 0) ((e 97 (by omega)).trans q)) (fun v h q hq => ?_)
      obtain ⟨rfl, ⟨C2, Cb, s1, f1, rfl⟩, rfl⟩ := hq
      have ci : ∀ k j, ¬ (k = 76 ∧ (j = 2 ∨ j = 69 ∨ j = 70)) → ¬ (115 ≤ k ∧ k ≤ 118) → k ≠ 91 → Cb.1 k j = C.1 k j := fun k j h1 h2 h3 => (f1.1 k j (by omega)).trans ((ov_1 (by omega)).trans ((s1.1 k j (by omega) (by omega)).trans (e0 k j (by omega))))
      have cj : ∀ k j, k ≠ 116 → Cb.2.1 k j = C.2.1 k j := fun k j h1 => (by rw [f1.2.2]; exact s1.2.2.2.1 k j (by omega))
      have R0 : RWs (sI C 76 2 0) 119 (240 * 1) (1440 * 1) (6 * 1) (wW W) (x0 (wX W)) := H1.2.2.2.1.1 hx
      have R1 : MRo C2 (wW W) (x0 (wX W)) := MRo_s (SLC_W s1 R0)
      exact ⟨nI 0, Cb, t, rfl, rfl, mEnd (d := d + 19) (r := xOk (wT W, wG W, x0 (wX W), enD (wX W))) (upE_t hup (upE_k (fun k j hk => ci k j (by omega) (by omega) (by omega)) (fun k j hk => cj k j (by omega)) (by rw [f1.2.2]; exact s1.2.2.2.2.2))) hW (by show 0 < 8; omega) (MI_en (C := C) ⟨fun k j a b c => ci k j (by omega) (by omega) c, fun k j a b => cj k j (by omega), ci 76 48 (by omega) (by omega) (by omega), ci 76 49 (by omega) (by omega) (by omega)⟩ ((f1.1 76 69 (by omega)).trans rfl) ((f1.1 76 70 (by omega)).trans rfl) (fun j hj => f1.2.1 j hj) (MRo_c (C := C2) (fun k j hk => (f1.1 k j (by omega)).trans (ov_1 (by omega))) (fun j => (by rw [f1.2.2]; rfl)) R1) ⟨false, (ci 76 74 (by omega) (by omega) (by omega)).trans h0.2.1⟩ H) (vM0 (Or.inl rfl) ((ci 76 93 (by omega) (by omega) (by omega)).trans h0.2.2.1) ((ci 76 95 (by omega) (by omega) (by omega)).trans h0.2.2.2)) ((f1.1 76 2 (by omega)).trans ((ov_1 (by omega)).trans ((s1.1 76 2 (by omega) (by omega)).trans (by rw [sI_1, if_pos ⟨rfl, rfl⟩]))))⟩
    · rcases ha with ha | ⟨s, rfl, hs, _⟩
      · exact absurd ha hne
      have h6 := hA.1.2.2.2.1.2.2
      rw [xBck_m hx (by omega)] at hW ⊢
      refine i_191 (d := d + 19) (s := 9) hf q (by omega) (by omega) hu (m_279_9 (d := d + 12) (sl := 0) ((e 97 (by omega)).trans q) ((e 98 (by omega)).trans q2) (by omega)) (fun v h q hq => ?_)
      obtain ⟨rfl, ⟨C2, s1, rfl⟩, rfl⟩ := hq
      have ci : ∀ k j, ¬ (k = 76 ∧ (j = 2 ∨ j = 70)) → ¬ (115 ≤ k ∧ k ≤ 118) → (sI C2 76 70 (nI (s + 1))).1 k j = C.1 k j := fun k j h1 h2 => by rw [sI_1, if_neg (by omega), s1.1 k j (by omega) (by omega)]; exact e0 k j (by omega)
      have cj : ∀ k j, k ≠ 116 → (sI C2 76 70 (nI (s + 1))).2.1 k j = C.2.1 k j := fun k j h1 => s1.2.2.2.1 k j (by omega)
      have R1 : MRo C2 (wW W) (xMr (wX W) s) := MRo_s (SLC_W s1 (H1.2.2.2.1.2 s hs))
      refine ⟨nI 0, _, t, rfl, rfl, mEnd (d := d + 19) (r := xOk (wT W, wG W, xMr (wX W) s, bkX (wX W) s)) (upE_t hup (upE_k (fun k j hk => ci k j (by omega) (by omega)) (fun k j hk => cj k j (by omega)) s1.2.2.2.2.2)) hW (by show 0 < 8; omega) ⟨MSc_O (C := C) (W := W) ⟨fun k j a b c => ci k j (by omega) (by omega), fun k j a b => cj k j (by omega), ci 76 48 (by omega) (by omega), ci 76 49 (by omega) (by omega)⟩ H.1, MRo_c (C := C2) (fun k j hk => by rw [sI_1, if_neg (by omega)]) (fun _ => rfl) R1, ⟨(ci 76 69 (by omega) (by omega)).trans H.2.2.1.1, MWt_e (fun j hj => ci 91 j (by omega) (by omega)) H.2.2.1.2.1, (by rw [sI_1, if_pos ⟨rfl, rfl⟩]; rfl), (by show s + 1 ≤ 6; omega), fun j hj => ?_⟩, ⟨fun z => RWs_c (fun i _ => ci _ _ (by omega) (by omega)) (fun i _ => cj _ _ (by omega)) (fun i _ => ⟨ci _ _ (by omega) (by omega), ci _ _ (by omega) (by omega)⟩) (H.2.2.2.1.1 z), fun j hj => ?_⟩, false, (ci 76 74 (by omega) (by omega)).trans h0.2.1⟩ (vM0 (Or.inl rfl) ((ci 76 93 (by omega) (by omega)).trans h0.2.2.1) ((ci 76 95 (by omega) (by omega)).trans h0.2.2.2)) ?_⟩
      · have hj : j < s + 1 := hj
        exact (cj 123 j (by omega)).trans (H.2.2.1.2.2.2.2 j (by omega))
      · have hj : j < s + 1 := hj
        exact RWs_c (fun i _ => ci _ _ (by omega) (by omega)) (fun i _ => cj _ _ (by omega)) (fun i _ => ⟨ci _ _ (by omega) (by omega), ci _ _ (by omega) (by omega)⟩) (H.2.2.2.1.2 j (by omega))
      · rw [sI_1, if_neg (by omega), s1.1 76 2 (by omega) (by omega), sI_1, if_pos ⟨rfl, rfl⟩]
/-! only waiting rules change -/
set_option maxRecDepth 100000 in
theorem MI_wt {f f' : Nat → Bool} (h : flU C C' 91 24 (fun j => ck (f' j))) (hf : ∀ j, j < 24 → wU W j ≠ none → f' j = f j) (H : MI C W) : MI C' (wT W, wG W, wR W, wtX (wX W) f) := by
  have ci : ∀ k j, k ≠ 91 → C'.1 k j = C.1 k j := fun k j hk => h.1 k j (by omega)
  have cj : ∀ k j, C'.2.1 k j = C.2.1 k j := fun k j => by rw [h.2.2]
  have b1 : ∀ j, j < 24 → C'.1 91 j = ck (f' j) := fun j hj => h.2.1 j hj
  refine ⟨MSc_O (C := C) (W := W) ⟨fun k j a b c => ci k j c, fun k j a b => cj k j, ci 76 48 (by omega), ci 76 49 (by omega)⟩ H.1, MRo_c (C := C) (fun k j hk => ci k j (by omega)) (fun j => cj 116 j) H.2.1, ⟨(ci 76 69 (by omega)).trans H.2.2.1.1, ⟨fun j hj => (by rw [b1 j hj]; cases f' j; exact Or.inl rfl; exact Or.inr rfl), fun j hj hn => (by rw [b1 j hj, hf j hj hn]; rfl)⟩, (ci 76 70 (by omega)).trans H.2.2.1.2.2.1, H.2.2.1.2.2.2.1, fun j hj => (cj 123 j).trans (H.2.2.1.2.2.2.2 j hj)⟩, ⟨fun z => RWs_c (fun i _ => ci _ _ (by omega)) (fun i _ => cj _ _) (fun i _ => ⟨ci _ _ (by omega), ci _ _ (by omega)⟩) (H.2.2.2.1.1 z), fun j hj => RWs_c (fun i _ => ci _ _ (by omega)) (fun i _ => cj _ _) (fun i _ => ⟨ci _ _ (by omega), ci _ _ (by omega)⟩) (H.2.2.2.1.2 j hj)⟩, ?_⟩
  obtain ⟨z, hz⟩ := H.2.2.2.2
  exact ⟨z, (ci 76 74 (by omega)).trans hz⟩
set_option maxRecDepth 100000 in
theorem me_20 {C0 : co_T} (hup : upE C0 C) (hA : wAll W) (hW : wOk (xLat W a).2.2) (hQ : C.1 76 97 = 11 ∧ ∀ j, j < 24 → C.1 139 j = ck (nmB true (wU W) a j)) (H : MI C W) (hf : C.1 76 8 = 0) (h0 : C.1 76 89 = 0 ∧ C.1 76 74 = 0 ∧ C.1 76 93 = 0 ∧ C.1 76 95 = 0) : Wd L xs (d + 20) y_191 (51, [(1, .int (nI (totF (wR W) 6 0 0))), (0, .ref 176)], [], MH C t, sl) (PRm C0 t W sl (xLat W a)) nX := by
  have H1 := MI_1 (j := 2) (v := 0) (by omega) H
  have e : ∀ j, j ≠ 2 → (sI C 76 2 0).1 76 j = C.1 76 j := fun j hj => e2_o hj
  cases hx : xIn (wX W) with
  | false =>
    rw [xLat_out hx]
    exact mNo (s := 11) hup hA.1 H hf h0 hQ.1 (Or.inl ⟨by omega, by omega, hx⟩)
  | true =>
    rw [xLat_in hx] at hW ⊢
    have hu : C.1 76 69 = 1 := by rw [H.2.2.1.1, hx]; rfl
    refine i_191 (d := d + 19) (s := 11) hf hQ.1 (by omega) (by omega) hu (m_279_11 (d := d + 19) (sl := 0) (wt := fun j => decide ((sI C 76 2 0).1 91 j ≠ 0)) (nm := nmB true (wU W) a) ((e 97 (by omega)).trans hQ.1) (MWt_b H1.2.2.1.2.1) (fun j hj => (by rw [sI_1, if_neg (by omega)]; exact hQ.2 j hj))) (fun v h q hq => ?_)
    obtain ⟨rfl, ⟨C2, f1, rfl⟩, rfl⟩ := hq
    have ef : ∀ j, C2.1 76 j = (sI C 76 2 0).1 76 j := fun j => f1.1 76 j (by omega)
    exact ⟨nI 0, C2, t, rfl, rfl, mEnd (d := d + 19) (r := xOk (wT W, wG W, wR W, wtX (wX W) (fun i => xWt (wX W) i || nmB true (wU W) a i))) (upE_t hup (upE_t (upE_I (by omega)) (upE_F (by omega) f1))) hW (by show 0 < 8; omega) (MI_wt f1 (fun j hj hn => by rw [MWt_k H1.2.2.1.2.1 hj hn]) H1) (vM0 (Or.inl rfl) ((ef 93).trans ((e 93 (by omega)).trans h0.2.2.1)) ((ef 95).trans ((e 95 (by omega)).trans h0.2.2.2))) ((ef 2).trans (by rw [sI_1, if_pos ⟨rfl, rfl⟩]))⟩
set_option maxRecDepth 100000 in
theorem me_26 {C0 : co_T} (hup : upE C0 C) (hA : wAll W) (hW : wOk (xNow W a).2.2) (hQ : C.1 76 97 = 12 ∧ ∀ j, j < 24 → C.1 139 j = ck (nmB false (wU W) a j)) (H : MI C W) (hf : C.1 76 8 = 0) (h0 : C.1 76 89 = 0 ∧ C.1 76 74 = 0 ∧ C.1 76 93 = 0 ∧ C.1 76 95 = 0) : Wd L xs (d + 20) y_191 (51, [(1, .int (nI (totF (wR W) 6 0 0))), (0, .ref 176)], [], MH C t, sl) (PRm C0 t W sl (xNow W a)) nX := by
  have H1 := MI_1 (j := 2) (v := 0) (by omega) H
  have e : ∀ j, j ≠ 2 → (sI C 76 2 0).1 76 j = C.1 76 j := fun j hj => e2_o hj
  cases hx : xIn (wX W) with
  | false =>
    rw [xNow_out hx]
    exact mNo (s := 12) hup hA.1 H hf h0 hQ.1 (Or.inl ⟨by omega, by omega, hx⟩)
  | true =>
    have hu : C.1 76 69 = 1 := by rw [H.2.2.1.1, hx]; rfl
    have w := m_283 (L := L) (xs := xs) (d := d + 11) (sl := 0) (t := t) (S := wS W) (rs := wR W) (z := false) (wt := fun j => decide ((sI C 76 2 0).1 91 j ≠ 0)) (nm := nmB false (wU W) a) H1.2.1.1 (MSt_I hA.1 H1.1) (okSt_w hA.1) (MWt_b H1.2.2.1.2.1) (fun j hj => (by rw [sI_1, if_neg (by omega)]; exact hQ.2 j hj)) ((e 74 (by omega)).trans h0.2.1)
    refine i_191 (d := d + 19) (s := 12) hf hQ.1 (by omega) (by omega) hu (m_279_12 (d := d + 18) (sl := 0) (P := NWM (sI C 76 2 0) t 0 (lkR (wS W) (wR W) (nmB false (wU W) a) (rng 0 24)) (fun j => decide ((sI C 76 2 0).1 91 j ≠ 0)) (nmB false (wU W) a)) ((e 97 (by omega)).trans hQ.1) w (fun v h q hq => ?_)) (fun v h q hq => ?_)
    · rcases hq with ⟨⟨x, h1, h2, h3⟩ | ⟨h1, h2, h3⟩, h4⟩
      · exact ⟨_, h2, Or.inl ⟨x, h1, h2, h3⟩, by rw [Nat.zero_add]; exact h4⟩
      · exact ⟨_, h2, Or.inr ⟨h1, h2, h3⟩, by rw [Nat.zero_add]; exact h4⟩
    · rcases hq with ⟨⟨x, hl, rfl, Ca, fz, rfl⟩ | ⟨hl, rfl, Ca, C2, fz, f1, rfl⟩, rfl⟩
      · rw [xNow_s hx hl] at hW ⊢
        have za : ∀ k j, ¬ (k = 76 ∧ (j = 2 ∨ j = 73)) → Ca.1 k j = C.1 k j := fun k j h => by
          by_cases z : k = 76 ∧ j = 74
          · rw [z.1, z.2, fz.2, e 74 (by omega)]
          · rw [fz.1.1 k j (by omega), sI_1, if_neg (by omega)]
        have Ha : MI (lkM Ca (some x)) W := by
          have cj : ∀ k j, k ≠ 124 → (lkM Ca (some x)).2.1 k j = C.2.1 k j := fun k j h => (by rw [lkM_2]; exact fz.1.2.1 k j h)
          have ci : ∀ k j, ¬ (k = 76 ∧ (j = 2 ∨ j = 73 ∨ j = 90 ∨ j = 91)) → (lkM Ca (some x)).1 k j = C.1 k j := fun k j h => (lkM_1 (by omega)).trans (za k j (by omega))
          exact ⟨MSc_O (C := C) ⟨fun k j a b c => ci k j (by omega), fun k j a b => cj k j (by omega), ci 76 48 (by omega), ci 76 49 (by omega)⟩ H.1, MRo_c (C := C) (fun k j hk => ci k j (by omega)) (fun j => cj 116 j (by omega)) H.2.1, ⟨(ci 76 69 (by omega)).trans H.2.2.1.1, MWt_e (fun j hj => ci 91 j (by omega)) H.2.2.1.2.1, (ci 76 70 (by omega)).trans H.2.2.1.2.2.1, H.2.2.1.2.2.2.1, fun j hj => (cj 123 j (by omega)).trans (H.2.2.1.2.2.2.2 j hj)⟩, ⟨fun z => RWs_c (fun i _ => ci _ _ (by omega)) (fun i _ => cj _ _ (by omega)) (fun i _ => ⟨ci _ _ (by omega), ci _ _ (by omega)⟩) (H.2.2.2.1.1 z), fun j hj => RWs_c (fun i _ => ci _ _ (by omega)) (fun i _ => cj _ _ (by omega)) (fun i _ => ⟨ci _ _ (by omega), ci _ _ (by omega)⟩) (H.2.2.2.1.2 j hj)⟩, false, (ci 76 74 (by omega)).trans h0.2.1⟩
        exact ⟨nI 2, lkM Ca (some x), t, rfl, rfl, mEnd (d := d + 19) (r := (2, vv (nI x.1) x.2 0 0 0, W)) (upE_t hup (upE_k (fun k j hk => (lkM_1 (by omega)).trans (za k j (by omega))) (fun k j hk => (by rw [lkM_2]; exact fz.1.2.1 k j (by omega))) (by rw [lkM_2]; exact fz.1.2.2))) hW (by show 2 < 8; omega) Ha ⟨fun z => (by cases z), fun _ => lkM_s, fun z => (by cases z), (lkM_1 (by omega)).trans ((za 76 93 (by omega)).trans h0.2.2.1), (lkM_1 (by omega)).trans ((za 76 95 (by omega)).trans h0.2.2.2)⟩ ((lkM_1 (by omega)).trans (by rw [fz.1.1 76 2 (by omega), sI_1, if_pos ⟨rfl, rfl⟩]))⟩
      · rw [xNow_n hx hl] at hW ⊢
        have za : ∀ k j, ¬ (k = 76 ∧ (j = 2 ∨ j = 73)) → Ca.1 k j = C.1 k j := fun k j h => by
          by_cases z : k = 76 ∧ j = 74
          · rw [z.1, z.2, fz.2, e 74 (by omega)]
          · rw [fz.1.1 k j (by omega), sI_1, if_neg (by omega)]
        have Ha : MI Ca W := by
          have cj : ∀ k j, k ≠ 124 → Ca.2.1 k j = C.2.1 k j := fun k j h => fz.1.2.1 k j h
          exact ⟨MSc_O (C := C) ⟨fun k j a b c => za k j (by omega), fun k j a b => cj k j (by omega), za 76 48 (by omega), za 76 49 (by omega)⟩ H.1, MRo_c (C := C) (fun k j hk => za k j (by omega)) (fun j => cj 116 j (by omega)) H.2.1, ⟨(za 76 69 (by omega)).trans H.2.2.1.1, MWt_e (fun j hj => za 91 j (by omega)) H.2.2.1.2.1, (za 76 70 (by omega)).trans H.2.2.1.2.2.1, H.2.2.1.2.2.2.1, fun j hj => (cj 123 j (by omega)).trans (H.2.2.1.2.2.2.2 j hj)⟩, ⟨fun z => RWs_c (fun i _ => za _ _ (by omega)) (fun i _ => cj _ _ (by omega)) (fun i _ => ⟨za _ _ (by omega), za _ _ (by omega)⟩) (H.2.2.2.1.1 z), fun j hj => RWs_c (fun i _ => za _ _ (by omega)) (fun i _ => cj _ _ (by omega)) (fun i _ => ⟨za _ _ (by omega), za _ _ (by omega)⟩) (H.2.2.2.1.2 j hj)⟩, false, (za 76 74 (by omega)).trans h0.2.1⟩
        have ef : ∀ j, C2.1 76 j = Ca.1 76 j := fun j => f1.1 76 j (by omega)
        exact ⟨nI 0, C2, t, rfl, rfl, mEnd (d := d + 19) (r := xOk (wT W, wG W, wR W, wtX (wX W) (fun i => xWt (wX W) i && !nmB false (wU W) a i))) (upE_t hup (upE_t (upE_k (fun k j hk => za k j (by omega)) (fun k j hk => fz.1.2.1 k j (by omega)) fz.1.2.2) (upE_F (by omega) f1))) hW (by show 0 < 8; omega) (MI_wt f1 (fun j hj hn => congrArg (fun z => z && !nmB false (wU W) a j) (MWt_k H1.2.2.1.2.1 hj hn)) Ha) (vM0 (Or.inl rfl) ((ef 93).trans ((za 76 93 (by omega)).trans h0.2.2.1)) ((ef 95).trans ((za 76 95 (by omega)).trans h0.2.2.2))) ((ef 2).trans (by rw [fz.1.1 76 2 (by omega), sI_1, if_pos ⟨rfl, rfl⟩]))⟩
end MVD
