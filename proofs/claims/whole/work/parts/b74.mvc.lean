
/-! THE OTHER SIDE AND THE WORLD: DROP, BEGIN, COMMIT, ROLLBACK, LATER, NOW -/
section MVC
variable {L : Nat} {xs : Nat → Int32} {B : Nat → Nat} {n m d sl b g : Nat} {C C' C1 C2 C3 : co_T} {t : ab_H} {W : wo_T} {U V : Nat → Prop} {rs : rs_T} {T : tb_S} {a : Int32}
set_option maxRecDepth 100000 in
theorem flU_g {k i : Nat} {g g' : Nat → Int32} (h : flU C C' k i g) (e : ∀ j, j < i → g j = g' j) : flU C C' k i g' := ⟨h.1, fun j hj => (h.2.1 j hj).trans (e j hj), h.2.2⟩
set_option maxRecDepth 100000 in
theorem me_17 {C0 : co_T} {a : Nat × Int32} (hup : upE C0 C) (hA : wAll W) (hW : wOk (xDrp W a).2.2) (ha : (a.1 = 37 ∧ ∃ b, a.2 = nI b ∧ b < 6 ∧ (wT W).1.1 b ≠ 0) ∨ (a.1 = 39 ∧ ∃ s, a.2 = nI s ∧ s < 8)) (hQ : C.1 76 97 = (if a.1 = 37 then 3 else 4) ∧ C.1 76 98 = a.2) (H : MI C W) (hf : C.1 76 8 = 0) (h0 : C.1 76 89 = 0 ∧ C.1 76 74 = 0 ∧ C.1 76 93 = 0 ∧ C.1 76 95 = 0) : Wd L xs (d + 20) y_191 (51, [(1, .int (nI (totF (wR W) 6 0 0))), (0, .ref 176)], [], MH C t, sl) (PRm C0 t W sl (xDrp W a)) nX := by
  obtain ⟨a1, a2⟩ := a
  have H1 := MI_1 (j := 2) (v := 0) (by omega) H
  have e : ∀ j, j ≠ 2 → (sI C 76 2 0).1 76 j = C.1 76 j := fun j hj => e2_o hj
  rcases ha with ⟨e1, b, e2, e3, e4⟩ | ⟨e1, s, e2, e3⟩
  · have e1 : a1 = 37 := e1
    have e2 : a2 = nI b := e2
    subst e1 e2
    have h97 : C.1 76 97 = nI 3 := hQ.1
    have h98 : C.1 76 98 = nI b := hQ.2
    cases hx : xIn (wX W) with
    | true =>
      rw [xDrp_in hx]
      exact mNo (s := 3) hup hA.1 H hf h0 h97 (Or.inr ⟨by omega, by omega, hx⟩)
    | false =>
      rw [xDrp_t hx e3] at hW ⊢
      have hu : C.1 76 69 = 0 := by rw [H.2.2.1.1, hx]; rfl
      have w5 := m_285 (L := L) (xs := xs) (d := d + 18) (sl := 0) (t := t) e3 (RfM_I hA.1 H1.1) (GfM_I hA.1 H1.1)
      cases hff : frG_ W b with
      | false =>
        have w5' : Wd L xs (d + 18) y_285 (0, [(0, .ref 176), (1, .int (nI b))], [], MH (sI C 76 2 0) t, 0) (Rt (some (.int (ck true))) (MH (sI C 76 2 0) t) 0) nX := by
          have z : (allN (fun i => fgU b (wU W i)) 24 0 && allN (fun i => fgG b (wG W i)) 8 0) = false := hff
          rw [z] at w5
          exact w5
        refine o_191 (d := d + 19) (s := 3) hf h97 (by omega) (by omega) hu (m_284_3u (d := d + 18) (sl := 0) ((e 97 (by omega)).trans h97) ((e 98 (by omega)).trans h98) w5') (fun v h q hq => ?_)
        obtain ⟨rfl, rfl, rfl⟩ := hq
        exact ⟨nI 7, _, t, rfl, rfl, mEnd (d := d + 19) (r := xNo W) (upE_t hup (upE_I (by omega))) hA.1 (by show 7 < 8; omega) H1 (vM0 (Or.inr rfl) ((e 93 (by omega)).trans h0.2.2.1) ((e 95 (by omega)).trans h0.2.2.2)) (by rw [sI_1, if_pos ⟨rfl, rfl⟩])⟩
      | true =>
        rw [hff] at hW
        have w5' : Wd L xs (d + 18) y_285 (0, [(0, .ref 176), (1, .int (nI b))], [], MH (sI C 76 2 0) t, 0) (Rt (some (.int (ck false))) (MH (sI C 76 2 0) t) 0) nX := by
          have z : (allN (fun i => fgU b (wU W i)) 24 0 && allN (fun i => fgG b (wG W i)) 8 0) = true := hff
          rw [z] at w5
          exact w5
        have w6 := m_286 (L := L) (xs := xs) (d := d + 18) (sl := 0) (t := t) (C := sI C 76 2 0) (a := fun j => (wU W j).isSome) (tb := fun j => ((wU W j).map rTb).getD 0) (ag := fun j => (wG W j).isSome) (tbg := fun j => ((wG W j).map gTb).getD 0) e3 (fun j hj => ?_) (fun j hj hz => ?_) (fun j hj => ?_) (fun j hj hz => ?_)
        refine o_191 (d := d + 19) (s := 3) hf h97 (by omega) (by omega) hu (m_284_3n (d := d + 18) (sl := 0) (P := fun v h q => v = some (.int (nI 0)) ∧ (∃ C1 C2, flU (dmC (sI C 76 2 0) b) C1 83 24 (fun j => ck ((wU W j).isSome && !decide (((wU W j).map rTb).getD 0 = b))) ∧ flU C1 C2 95 8 (fun j => ck ((wG W j).isSome && !decide (((wG W j).map gTb).getD 0 = b))) ∧ MH C2 t = h) ∧ q = 0) ((e 97 (by omega)).trans h97) ((e 98 (by omega)).trans h98) w5' w6 (fun v h q hq => ?_)) (fun v h q hq => ?_)
        · obtain ⟨rfl, z, rfl⟩ := hq
          exact ⟨rfl, rfl, z, rfl⟩
        · obtain ⟨rfl, ⟨C1, C2, f1, f2, rfl⟩, rfl⟩ := hq
          have f1' := flU_g (g' := fun j => ck ((wU W j).isSome && !decide ((wU W j).map rTb = some b))) f1 (fun j _ => by
            show ck _ = ck _
            cases wU W j with
            | none => rfl
            | some u =>
              congr 2
              show (!decide (rTb u = b)) = (!decide (some (rTb u) = some b))
              rw [decide_eq_decide.mpr ⟨fun z => congrArg some z, fun z => by injection z⟩])
          have f2' := flU_g (g' := fun j => ck ((wG W j).isSome && !decide ((wG W j).map gTb = some b))) f2 (fun j _ => by
            show ck _ = ck _
            cases wG W j with
            | none => rfl
            | some u =>
              congr 2
              show (!decide (gTb u = b)) = (!decide (some (gTb u) = some b))
              rw [decide_eq_decide.mpr ⟨fun z => congrArg some z, fun z => by injection z⟩])
          have ef : ∀ j, C2.1 76 j = (sI C 76 2 0).1 76 j := fun j => (f2.1 76 j (by omega)).trans ((f1.1 76 j (by omega)).trans (by unfold dmC; rw [sI_1, if_neg (by omega), sI_1, if_neg (by omega), sI_1, if_neg (by omega)]))
          exact ⟨nI 0, C2, t, rfl, rfl, mEnd (d := d + 19) (r := xOk (drW W b)) (upE_t hup (upE_t (upE_I (by omega)) (upE_t (upE_t (upE_I (by omega)) (upE_t (upE_I (by omega)) (upE_I (by omega)))) (upE_t (upE_F (by omega) f1) (upE_F (by omega) f2))))) hW (by show 0 < 8; omega) (MI_dp hA.1 e3 hx f1' f2' H1) (vM0 (Or.inl rfl) ((ef 93).trans ((e 93 (by omega)).trans h0.2.2.1)) ((ef 95).trans ((e 95 (by omega)).trans h0.2.2.2))) ((ef 2).trans (by rw [sI_1, if_pos ⟨rfl, rfl⟩]))⟩
        · have := RfM_I hA.1 H1.1 j hj
          cases z : wU W j with
          | none => rw [z] at this; exact this
          | some u => rw [z] at this; exact this.1
        · have := RfM_I hA.1 H1.1 j hj
          cases z : wU W j with
          | none => rw [z] at hz; cases hz
          | some u => rw [z] at this; exact this.2.1
        · have := GfM_I hA.1 H1.1 j hj
          cases z : wG W j with
          | none => rw [z] at this; exact this
          | some u => rw [z] at this; exact this.1
        · have := GfM_I hA.1 H1.1 j hj
          cases z : wG W j with
          | none => rw [z] at hz; cases hz
          | some u => rw [z] at this; exact this.2.1
  · have e1 : a1 = 39 := e1
    have e2 : a2 = nI s := e2
    subst e1 e2
    have h97 : C.1 76 97 = nI 4 := hQ.1
    have h98 : C.1 76 98 = nI s := hQ.2
    cases hx : xIn (wX W) with
    | true =>
      rw [xDrp_in hx]
      exact mNo (s := 4) hup hA.1 H hf h0 h97 (Or.inr ⟨by omega, by omega, hx⟩)
    | false =>
      rw [xDrp_g hx e3] at hW ⊢
      have hu : C.1 76 69 = 0 := by rw [H.2.2.1.1, hx]; rfl
      refine o_191 (d := d + 19) (s := 4) hf h97 (by omega) (by omega) hu (m_284_4 (d := d + 19) (sl := 0) ((e 97 (by omega)).trans h97) e3 ((e 98 (by omega)).trans h98)) (fun v h q hq => ?_)
      obtain ⟨rfl, rfl, rfl⟩ := hq
      refine ⟨nI 0, _, t, rfl, rfl, mEnd (d := d + 19) (r := xOk (wT W, upG (wG W) s none, W.2.2)) (upE_t hup (upE_t (upE_I (by omega)) (upE_I (by omega)))) hW (by show 0 < 8; omega) (MI_G (x := 0) (G := none) e3 rfl (fun u hu => by cases hu) H1) (vM0 (Or.inl rfl) ?_ ?_) ?_⟩
      · rw [sI_1, if_neg (by omega), e 93 (by omega)]; exact h0.2.2.1
      · rw [sI_1, if_neg (by omega), e 95 (by omega)]; exact h0.2.2.2
      · rw [sI_1, if_neg (by omega), sI_1, if_pos ⟨rfl, rfl⟩]
/-! what stands of tables, rules, triggers, behind changes of rows and flags alone -/
def stO (C C' : co_T) : Prop := (∀ k j, 77 ≤ k → k < 115 → k ≠ 91 → C'.1 k j = C.1 k j) ∧ (∀ k j, 77 ≤ k → k < 115 → C'.2.1 k j = C.2.1 k j) ∧ (C'.1 76 48 = C.1 76 48 ∧ C'.1 76 49 = C.1 76 49)
set_option maxRecDepth 100000 in
theorem MSc_O (h : stO C C') (H : MSc C W) : MSc C' W := by
  obtain ⟨h1, h1b, h1c⟩ := H
  obtain ⟨b1, c1, e1, bo⟩ := h1
  refine ⟨⟨fun q hq hz => ?_, fun q hq hz => (h.1 78 q (by omega) (by omega) (by omega)).trans (c1 q hq hz), fun q hq => ?_, by rw [h.2.2.1, h.2.2.2]; exact bo⟩, fun i hi => opM_m (fun u hu => TRM_o hu (fun k j hk => h.1 k j (by omega) (by omega) (by omega)) (fun k j hk => h.2.1 k j (by omega) (by omega))) (h.1 95 i (by omega) (by omega) (by omega)) (h1b i hi), fun g u hg e => (h.1 105 g (by omega) (by omega) (by omega)).trans (h1c g u hg e)⟩
  · obtain ⟨g1, g2, g3, g4⟩ := b1 q hq hz
    exact ⟨(h.1 78 q (by omega) (by omega) (by omega)).trans g1, (h.2.1 79 q (by omega) (by omega)).trans g2, TBM_o g3 (fun j => h.1 80 j (by omega) (by omega) (by omega)) (fun j => h.2.1 81 j (by omega) (by omega)), fun c hc => (h.2.1 82 _ (by omega) (by omega)).trans (g4 c hc)⟩
  · rcases e1 q hq with ⟨g1, g2⟩ | ⟨u, g1, g2, g3, g4⟩
    · exact Or.inl ⟨g1, (h.1 83 q (by omega) (by omega) (by omega)).trans g2⟩
    · exact Or.inr ⟨u, g1, RUM_l (fun j _ => ⟨h.1 106 _ (by omega) (by omega) (by omega), h.2.1 107 _ (by omega) (by omega)⟩) (fun k a b _ _ f => h.1 k q (by omega) (by omega) f) (fun k j a _ => h.1 k _ (by omega) (by omega) (by omega)) (h.1 113 q (by omega) (by omega) (by omega)) g3 g2, g3, (h.1 83 q (by omega) (by omega) (by omega)).trans g4⟩
set_option maxRecDepth 100000 in
theorem MRo_s {wd : Nat → Nat} (R : RWs C 115 0 0 0 wd rs) : MRo C wd rs := by
  obtain ⟨r1, r2⟩ := R
  refine ⟨fun b hb => ?_, fun q hq => ?_⟩
  · obtain ⟨a1, a2, a3, a4⟩ := r1 b hb
    refine ⟨a1, ?_, a3, fun k r hr => ⟨?_, fun c hc => ?_⟩⟩
    · have a2 : C.1 117 (0 + b) = _ := a2
      rwa [Nat.zero_add] at a2
    · have z : C.1 115 (0 + (b * 40 + k)) = _ := (a4 k r hr).1
      rwa [Nat.zero_add] at z
    · have z : C.2.1 116 (0 + ((b * 40 + k) * 6 + c)) = _ := (a4 k r hr).2 c hc
      rwa [Nat.zero_add] at z
  · have z : C.1 118 (0 + q) = _ := r2 q hq
    rwa [Nat.zero_add] at z
set_option maxRecDepth 100000 in
theorem RWs_Mo {wd : Nat → Nat} (R : MRo C wd rs) : RWs C 115 0 0 0 wd rs := by
  obtain ⟨r1, r2⟩ := R
  refine ⟨fun b hb => ?_, fun q hq => ?_⟩
  · obtain ⟨a1, a2, a3, a4⟩ := r1 b hb
    refine ⟨a1, ?_, a3, fun k r hr => ⟨?_, fun c hc => ?_⟩⟩
    · show C.1 117 (0 + b) = _
      rw [Nat.zero_add]; exact a2
    · show C.1 115 (0 + (b * 40 + k)) = _
      rw [Nat.zero_add]; exact (a4 k r hr).1
    · show C.2.1 116 (0 + ((b * 40 + k) * 6 + c)) = _
      rw [Nat.zero_add]; exact (a4 k r hr).2 c hc
  · show C.1 118 (0 + q) = _
    rw [Nat.zero_add]; exact r2 q hq
set_option maxRecDepth 100000 in
theorem me_10 {C0 : co_T} (hup : upE C0 C) (hA : wAll W) (hW : wOk (xBeg W).2.2) (h97 : C.1 76 97 = 6) (H : MI C W) (hf : C.1 76 8 = 0) (h0 : C.1 76 89 = 0 ∧ C.1 76 74 = 0 ∧ C.1 76 93 = 0 ∧ C.1 76 95 = 0) : Wd L xs (d + 20) y_191 (51, [(1, .int (nI (totF (wR W) 6 0 0))), (0, .ref 176)], [], MH C t, sl) (PRm C0 t W sl (xBeg W)) nX := by
  have H1 := MI_1 (j := 2) (v := 0) (by omega) H
  have e : ∀ j, j ≠ 2 → (sI C 76 2 0).1 76 j = C.1 76 j := fun j hj => e2_o hj
  have h97' : C.1 76 97 = nI 6 := h97
  cases hx : xIn (wX W) with
  | true =>
    rw [xBeg_in hx]
    exact mNo (s := 6) hup hA.1 H hf h0 h97' (Or.inr ⟨by omega, by omega, hx⟩)
  | false =>
    rw [xBeg_out hx] at hW ⊢
    have hu : C.1 76 69 = 0 := by rw [H.2.2.1.1, hx]; rfl
    refine o_191 (d := d + 19) (s := 6) hf h97' (by omega) (by omega) hu (m_284_6 (d := d + 18) (sl := 0) (wt := fun j => (wU W j).isSome) (nm := fun j => ltU (wU W j)) ((e 97 (by omega)).trans h97) (fun j hj => ?_) (fun j hj hz => ?_)) (fun v h q hq => ?_)
    · rcases H1.1.1.2.2.1 j hj with ⟨e1, e2⟩ | ⟨u, e1, e2, e3, e4⟩
      · rw [show wU W j = none from e1]; exact e2
      · rw [show wU W j = some u from e1]; exact e4
    · rcases H1.1.1.2.2.1 j hj with ⟨e1, e2⟩ | ⟨u, e1, e2, e3, e4⟩
      · rw [show wU W j = none from e1] at hz; cases hz
      · rw [show wU W j = some u from e1]; exact e2.2.1.1
    · obtain ⟨rfl, ⟨C2, C3, s1, f1, rfl⟩, rfl⟩ := hq
      have ci : ∀ k j, ¬ (k = 76 ∧ (j = 2 ∨ j = 69 ∨ j = 70)) → ¬ (k = 119 ∧ 240 ≤ j ∧ j < 480) → ¬ ((k = 121 ∨ k = 122) ∧ 6 ≤ j ∧ j < 12) → k ≠ 91 → C3.1 k j = C.1 k j := fun k j h1 h2 h3 h4 => (f1.1 k j (by omega)).trans ((s1.1 k j (by omega) (by omega)).trans (by rw [sI_1, if_neg (by omega), sI_1, if_neg (by omega), sI_1, if_neg (by omega)]))
      have cj : ∀ k j, k ≠ 120 → C3.2.1 k j = C.2.1 k j := fun k j h1 => (by rw [f1.2.2]; exact s1.2.2.2.1 k j (by omega))
      have c69 : C3.1 76 69 = 1 := (f1.1 76 69 (by omega)).trans ((s1.1 76 69 (by omega) (by omega)).trans (by rw [sI_1, if_neg (by omega), sI_1, if_pos ⟨rfl, rfl⟩]))
      have c70 : C3.1 76 70 = 0 := (f1.1 76 70 (by omega)).trans ((s1.1 76 70 (by omega) (by omega)).trans (by rw [sI_1, if_pos ⟨rfl, rfl⟩]))
      have c2 : C3.1 76 2 = 0 := (f1.1 76 2 (by omega)).trans ((s1.1 76 2 (by omega) (by omega)).trans (by rw [sI_1, if_neg (by omega), sI_1, if_neg (by omega), sI_1, if_pos ⟨rfl, rfl⟩]))
      refine ⟨nI 0, C3, t, rfl, rfl, mEnd (d := d + 19) (r := xOk (wT W, wG W, wR W, bgX W)) (upE_t hup (upE_k (fun k j hk => ci k j (by omega) (by omega) (by omega) (by omega)) (fun k j hk => cj k j (by omega)) (by rw [f1.2.2]; exact s1.2.2.2.2.2))) hW (by show 0 < 8; omega) ⟨MSc_O (W := W) ⟨fun k j a b c => ci k j (by omega) (by omega) (by omega) c, fun k j a b => cj k j (by omega), ci 76 48 (by omega) (by omega) (by omega) (by omega), ci 76 49 (by omega) (by omega) (by omega) (by omega)⟩ H.1, ⟨fun b hb => ?_, fun q hq => (ci 118 q (by omega) (by omega) (by omega) (by omega)).trans (H.2.1.2 q hq)⟩, ⟨c69, MWt_a (fun j hj => ?_), c70, Nat.zero_le 6, fun j hj => absurd hj (Nat.not_lt_zero j)⟩, ⟨fun _ => ?_, fun j hj => absurd hj (Nat.not_lt_zero j)⟩, ?_⟩ (vM0 (Or.inl rfl) ((ci 76 93 (by omega) (by omega) (by omega) (by omega)).trans h0.2.2.1) ((ci 76 95 (by omega) (by omega) (by omega) (by omega)).trans h0.2.2.2)) c2⟩
      · obtain ⟨a1, a2, a3, a4⟩ := H.2.1.1 b hb
        exact ⟨a1, (ci 117 b (by omega) (by omega) (by omega) (by omega)).trans a2, a3, fun k r hr => ⟨(ci 115 _ (by omega) (by omega) (by omega) (by omega)).trans (a4 k r hr).1, fun c hc => (cj 116 _ (by omega)).trans ((a4 k r hr).2 c hc)⟩⟩
      · rw [f1.2.1 j hj]
        show ck ((wU W j).isSome && ltU (wU W j)) = ck (ltU (wU W j))
        cases wU W j with
        | none => rfl
        | some u => rfl
      · have R0 : RWs (sI (sI (sI C 76 2 0) 76 69 1) 76 70 0) 115 0 0 0 (wW W) (wR W) := RWs_c (fun i _ => by rw [sI_1, if_neg (by omega), sI_1, if_neg (by omega), sI_1, if_neg (by omega)]) (fun _ _ => rfl) (fun i _ => ⟨by rw [sI_1, if_neg (by omega), sI_1, if_neg (by omega), sI_1, if_neg (by omega)], by rw [sI_1, if_neg (by omega), sI_1, if_neg (by omega), sI_1, if_neg (by omega)]⟩) (RWs_Mo H.2.1)
        have R1 := SLC_W s1 R0
        exact RWs_c (fun i _ => f1.1 _ _ (by omega)) (fun i _ => by rw [f1.2.2]) (fun i _ => ⟨f1.1 _ _ (by omega), f1.1 _ _ (by omega)⟩) R1
      · obtain ⟨z, hz⟩ := H.2.2.2.2
        exact ⟨z, (ci 76 74 (by omega) (by omega) (by omega) (by omega)).trans hz⟩
end MVC
