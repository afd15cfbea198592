
/-! THE OTHER SIDE AND THE WORLD: every run -/
section MRA
variable {L : Nat} {xs : Nat → Int32} {B : Nat → Nat} {n m d sl b : Nat} {C C' C1 : co_T} {t : ab_H} {W : wo_T}
set_option maxRecDepth 100000 in
theorem uv_n : uvW W nN nN := ⟨fun _ _ _ z => z, fun _ _ _ => ⟨fun z => z, fun z => z⟩, fun _ _ _ z => z⟩
def uT (W : wo_T) (p : Nat) : Prop := p < 24 ∧ wU W p = none
def vT (W : wo_T) (b : Nat) : Prop := b < 6 ∧ (wT W).1.1 b = 0
def uG (W : wo_T) (p : Nat) : Prop := ∃ g, g < 8 ∧ wG W g = none ∧ (p = 24 + g ∨ p = 32 + g)
set_option maxRecDepth 100000 in
theorem uv_T : uvW W (uT W) (vT W) := ⟨fun r _ h z => h z.2, fun g _ _ => ⟨fun z => by have := z.1; omega, fun z => by have := z.1; omega⟩, fun b _ h z => h z.2⟩
set_option maxRecDepth 100000 in
theorem uv_G : uvW W (uG W) nN := ⟨fun r hr h z => by
  obtain ⟨g, _, _, e⟩ := z
  omega, fun g hg h => ⟨fun z => by
  obtain ⟨g', h1, h2, e⟩ := z
  have : g' = g := by omega
  rw [this] at h2
  exact h h2, fun z => by
  obtain ⟨g', h1, h2, e⟩ := z
  have : g' = g := by omega
  rw [this] at h2
  exact h h2⟩, fun _ _ _ z => z⟩
set_option maxRecDepth 100000 in
theorem uv_C : uvW W (fun p => p = 40) nN := ⟨fun r hr _ z => by omega, fun g hg _ => ⟨fun z => by omega, fun z => by omega⟩, fun _ _ _ z => z⟩
set_option maxRecDepth 100000 in
theorem runM (hA : wAll W) (H : MI C W) (Tp : tpM C B n) (hm : lst B n m) : Wd L xs (d + 20) y_191 (0, [(0, .ref 176)], [], MH C t, sl) (PRm C t W sl (runX W B n)) nX := by
  have h6 : m ≤ 600 := Nat.le_trans (lst_le hm) Tp.2.1
  have h1 : ∀ w, kd B n 0 = w → w ≠ 1 → w ≠ 2 → 0 + 1 ≤ m := fun w e a b => st1 hm (Nat.zero_le m) e a b
  have hL : ∀ b, b < 6 → (wT W).1.1 b ≠ 0 → (wT W).1.2.1 b ≤ 6 ∧ 0 < (wT W).1.2.1 b := fun b hb hz => ⟨(hA.1.1.1 b hb).1, (hA.1.1.1 b hb).2.1 hz⟩
  have H0 := MI_rn H
  have N0 := NDM_I H0.1
  have T0 := tpM_rn Tp
  have h4 := hA.1.2.2.1
  unfold runX
  by_cases e37 : kd B n 0 = 37
  · rw [if_pos e37]
    have h0 := h1 37 e37 (by decide) (by decide)
    refine mRun (U := uT W) (V := vT W) hA.1 H uv_T (m_193k (by omega) T0 N0 (by rw [e37]; decide) (fun C1 M f z => r65_37 (d := d + 7) (a := ndS (wU W) (wG W)) (k := 400 - ndS (wU W) (wG W)) (fun r hr h => ?_) (fun b hb h => ⟨hb, h⟩) M (TM0_D H0.1.1 f) (fun i u hu => ?_) (fun q hq => (hA.1.1.1 q hq).1) (fun q hq hz => (hA.1.1.1 q hq).2.2 hz) e37 z.1 z.2.1 (by omega))) (fun a i' nl' C' hr hQ hl H' hf h00 up => me_37 up hA hm h6 h0 (xTab_ok hm h6 h0 hA.1 hr) hr hQ H' hf h00)
    · refine ⟨hr, ?_⟩
      rcases (TM0_D H0.1.1 f).2.2.1 r hr with ⟨e1, _⟩ | ⟨u, _, _, _, e4⟩
      · exact e1
      · rw [h] at e4
        exact absurd e4 (by decide)
    · obtain ⟨⟨a1, a2, a3, a4⟩, _⟩ := (hA.1.1.2 i u hu).1
      exact ⟨a3, fun c hc => Nat.lt_of_lt_of_le (a4 c hc) (hA.1.1.1 _ a2).1, a2, by omega⟩
  rw [if_neg e37]
  by_cases e39 : kd B n 0 = 39
  · rw [if_pos e39]
    have h0 := h1 39 e39 (by decide) (by decide)
    exact mRun (U := uG W) (V := nN) hA.1 H uv_G (m_193k (by omega) T0 N0 (by rw [e39]; decide) (fun C1 M f z => r65_39 (d := d + 6) (a := ndS (wU W) (wG W)) (k := 400 - ndS (wU W) (wG W)) (fun g hg h => ⟨⟨g, hg, h, Or.inr rfl⟩, ⟨g, hg, h, Or.inl rfl⟩⟩) M (SCM_D (SCM_I H0.1) f) (TGM_D H0.1.2.1 f) e39 z.1 z.2.1 (by omega))) (fun a i' nl' C' hr hQ hl H' hf h00 up => me_39 up hA (xTrg_ok hm h6 h0 hA.1 hr) hr hl hQ H' hf h00)
  rw [if_neg e39]
  by_cases e17 : kd B n 0 = 17
  · rw [if_pos e17]
    exact mRun (U := nN) (V := nN) hA.1 H uv_n (m_193k (by omega) T0 N0 (by rw [e17]; decide) (fun C1 M f z => r65_17 (d := d + 12) (SCM_D (SCM_I H0.1) f) (TGM_D H0.1.2.1 f) M e17)) (fun a i' nl' C' hr hQ hl H' hf h00 up => me_17 up hA (xDrp_al hA (rDrp_s hr)).1 (rDrp_s hr) hQ H' hf h00)
  rw [if_neg e17]
  by_cases ech : kd B n 0 = 18 ∨ kd B n 0 = 41 ∨ kd B n 0 = 15
  · rw [if_pos ech]
    refine mRun (U := fun p => p = 40) (V := nN) (Q := fun A' C' => ACM C' 40 A' ∧ C'.1 76 97 = 5) hA.1 H uv_C (m_193k (by omega) T0 N0 (by omega) (fun C1 M f z => ?_)) (fun a i' nl' C' hr hQ hl H' hf h00 up => ?_)
    · have bo := (TM0_D H0.1.1 f).2.2.2
      rcases ech with e | e | e
      · exact r65_18 (d := d + 8) rfl M (SCM_D (SCM_I H0.1) f) z.2.2 bo e
      · exact r65_41 (d := d + 8) rfl M (SCM_D (SCM_I H0.1) f) z.2.2 bo e
      · exact r65_15 (d := d + 8) rfl M (SCM_D (SCM_I H0.1) f) z.2.2 bo e
    · obtain ⟨g1, g2, q, g3, g4, g5⟩ := rChg_w (w0 := 0) hm h6 (Nat.zero_le m) hL (fun p e => by cases e) hr
      exact me_ch up hA.1 g1 g2.1 g3 g5 hQ H' hf h00
  rw [if_neg ech]
  by_cases e10 : kd B n 0 = 10
  · rw [if_pos e10]
    exact mRun (U := nN) (V := nN) hA.1 H uv_n (m_193k (by omega) T0 N0 (by rw [e10]; decide) (fun C1 M f z => r65_10 (d := d + 14) M e10)) (fun a i' nl' C' hr hQ hl H' hf h00 up => me_10 up hA (xBeg_ok hA.1) hQ H' hf h00)
  rw [if_neg e10]
  by_cases e13 : kd B n 0 = 13
  · rw [if_pos e13]
    exact mRun (U := nN) (V := nN) hA.1 H uv_n (m_193k (by omega) T0 N0 (by rw [e13]; decide) (fun C1 M f z => r65_13 (d := d + 14) M e13)) (fun a i' nl' C' hr hQ hl H' hf h00 up => me_13 up hA (xCom_ok hA.1) hQ H' hf h00)
  rw [if_neg e13]
  by_cases e8 : kd B n 0 = 8
  · rw [if_pos e8]
    refine mRun (U := nN) (V := nN) hA.1 H uv_n (m_193k (by omega) T0 N0 (by rw [e8]; decide) (fun C1 M f z => r65_8 (d := d + 13) (MKM_D H0.2.2.1.2.2 f) M e8)) (fun a i' nl' C' hr hQ hl H' hf h00 up => ?_)
    have g := rBck_s hA.1.2.2.2.1.2.2 hr
    exact me_8 up hA (xBck_ok hA.1 (g.imp (fun z => z) (fun ⟨s, _, e2, e3⟩ => by rw [e3]; exact e2))) g hQ H' hf h00
  rw [if_neg e8]
  by_cases e22 : kd B n 0 = 22
  · rw [if_pos e22]
    exact mRun (U := nN) (V := nN) hA.1 H uv_n (m_193k (by omega) T0 N0 (by rw [e22]; decide) (fun C1 M f z => r65_22 (d := d + 13) (MKM_D H0.2.2.1.2.2 f) M e22)) (fun a i' nl' C' hr hQ hl H' hf h00 up => me_22 up hA (xMrk_ok hA.1 (rMrk_s hr)) (rMrk_s hr) hQ H' hf h00)
  rw [if_neg e22]
  by_cases e20 : kd B n 0 = 20
  · rw [if_pos e20]
    exact mRun (U := nN) (V := nN) hA.1 H uv_n (m_193k (by omega) T0 N0 (by rw [e20]; decide) (fun C1 M f z => r65_20 (d := d + 13) (RGM_D (RGM_I H0.1) f) M e20)) (fun a i' nl' C' hr hQ hl H' hf h00 up => me_20 up hA (xLat_ok hA.1) hQ H' hf h00)
  rw [if_neg e20]
  by_cases e26 : kd B n 0 = 26
  · rw [if_pos e26]
    exact mRun (U := nN) (V := nN) hA.1 H uv_n (m_193k (by omega) T0 N0 (by rw [e26]; decide) (fun C1 M f z => r65_26 (d := d + 13) (RGM_D (RGM_I H0.1) f) M e26)) (fun a i' nl' C' hr hQ hl H' hf h00 up => me_26 up hA (xNow_ok hA.1) hQ H' hf h00)
  rw [if_neg e26]
  exact mRun (r := (.inl (2, 0) : pz_T (Unit × Nat × Option Nat))) (Q := fun _ _ => True) (f := fun _ => xNo W) (U := nN) (V := nN) hA.1 H uv_n (m_193_n (d := d + 13) T0 N0 e37 e39 e17 (fun e => ech (Or.inl e)) (fun e => ech (Or.inr (Or.inl e))) (fun e => ech (Or.inr (Or.inr e))) e10 e13 e8 e22 e20 e26) (fun a i' nl' C' hr => by cases hr)
end MRA
