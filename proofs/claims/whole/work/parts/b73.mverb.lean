
/-! THE OTHER SIDE AND THE WORLD: changes, triggers, DROP, BEGIN -/
section MVB
variable {L : Nat} {xs : Nat → Int32} {B : Nat → Nat} {n m d sl b g : Nat} {C C' C1 C2 C3 : co_T} {t : ab_H} {W : wo_T} {U V : Nat → Prop} {rs : rs_T} {T : tb_S}
set_option maxRecDepth 100000 in
theorem TM0_v (H : TM0 C T) (h48 : C'.1 76 48 = C.1 76 48) (h49 : C'.1 76 49 = C.1 76 49) (h1 : ∀ k j, 77 ≤ k → k ≤ 114 → ¬ (95 ≤ k ∧ k ≤ 105) → C'.1 k j = C.1 k j) (h2 : ∀ k j, 77 ≤ k → k ≤ 107 → C'.2.1 k j = C.2.1 k j) : TM0 C' T := by
  obtain ⟨b1, c1, e1, bo⟩ := H
  refine ⟨fun q hq hz => ?_, fun q hq hz => (h1 78 q (by omega) (by omega) (by omega)).trans (c1 q hq hz), fun q hq => ?_, by rw [h48, h49]; exact bo⟩
  · obtain ⟨g1, g2, g3, g4⟩ := b1 q hq hz
    exact ⟨(h1 78 q (by omega) (by omega) (by omega)).trans g1, (h2 79 q (by omega) (by omega)).trans g2, TBM_o g3 (fun j => h1 80 j (by omega) (by omega) (by omega)) (fun j => h2 81 j (by omega) (by omega)), fun c hc => (h2 82 _ (by omega) (by omega)).trans (g4 c hc)⟩
  · rcases e1 q hq with ⟨g1, g2⟩ | ⟨u, g1, g2, g3, g4⟩
    · exact Or.inl ⟨g1, (h1 83 q (by omega) (by omega) (by omega)).trans g2⟩
    · exact Or.inr ⟨u, g1, RUM_l (fun j _ => ⟨h1 106 _ (by omega) (by omega) (by omega), h2 107 _ (by omega) (by omega)⟩) (fun k a b _ _ _ => h1 k q (by omega) (by omega) (by omega)) (fun k j a _ => h1 k _ (by omega) (by omega) (by omega)) (h1 113 q (by omega) (by omega) (by omega)) g3 g2, g3, (h1 83 q (by omega) (by omega) (by omega)).trans g4⟩
set_option maxRecDepth 100000 in
theorem MI_M (f : frM C C') (hR : MRo C' (wW W) rs) (hz : ∃ z, C'.1 76 74 = ck z) (H : MI C W) : MI C' (wT W, wG W, rs, wX W) := by
  obtain ⟨⟨h1, h1b, h1c⟩, h2, h3, h4, _⟩ := H
  have e1 : ∀ k j, 77 ≤ k → k < 115 → C'.1 k j = C.1 k j := fun k j a b => f.1 k j (by omega) (by omega) (by omega) (by omega) (by omega)
  have e2 : ∀ k j, 77 ≤ k → k < 115 → C'.2.1 k j = C.2.1 k j := fun k j a b => f.2.1 k j (by omega) (by omega) (by omega) (by omega)
  have e6 : ∀ j, j = 48 ∨ j = 49 ∨ j = 69 ∨ j = 70 → C'.1 76 j = C.1 76 j := fun j hj => f.1 76 j (by omega) (by omega) (by omega) (by omega) (by omega)
  refine ⟨⟨TM0_v h1 (e6 48 (by omega)) (e6 49 (by omega)) (fun k j a b _ => e1 k j a (by omega)) (fun k j a b => e2 k j a (by omega)), fun i hi => opM_m (fun u hu => TRM_o hu (fun k j hk => e1 k j (by omega) (by omega)) (fun k j hk => e2 k j (by omega) (by omega))) (e1 95 i (by omega) (by omega)) (h1b i hi), fun g u hg e => (e1 105 g (by omega) (by omega)).trans (h1c g u hg e)⟩, hR, ⟨(e6 69 (by omega)).trans h3.1, MWt_e (fun j hj => e1 91 j (by omega) (by omega)) h3.2.1, (e6 70 (by omega)).trans h3.2.2.1, h3.2.2.2.1, fun j hj => (f.2.1 123 j (by omega) (by omega) (by omega) (by omega)).trans (h3.2.2.2.2 j hj)⟩, ⟨fun z => RWs_c (fun i _ => f.1 _ _ (by omega) (by omega) (by omega) (by omega) (by omega)) (fun i _ => f.2.1 _ _ (by omega) (by omega) (by omega) (by omega)) (fun i _ => ⟨f.1 _ _ (by omega) (by omega) (by omega) (by omega) (by omega), f.1 _ _ (by omega) (by omega) (by omega) (by omega) (by omega)⟩) (h4.1 z), fun j hj => RWs_c (fun i _ => f.1 _ _ (by omega) (by omega) (by omega) (by omega) (by omega)) (fun i _ => f.2.1 _ _ (by omega) (by omega) (by omega) (by omega)) (fun i _ => ⟨f.1 _ _ (by omega) (by omega) (by omega) (by omega) (by omega), f.1 _ _ (by omega) (by omega) (by omega) (by omega) (by omega)⟩) (h4.2 j hj)⟩, hz⟩
set_option maxRecDepth 100000 in
theorem chgR_x {S : st_T} {a : ac_T} {p p' : Nat → Bool} (h : ∀ i, i < 24 → sRu S i ≠ none → p i = p' i) : chgR S a rs p = chgR S a rs p' := by
  have e : ∀ r0, lkR S r0 p (rng 0 24) = lkR S r0 p' (rng 0 24) := fun r0 => lkR_x (rng 0 24) (fun i hi hs => h i (by have := (rng_m _ _ _ hi).2; omega) hs)
  unfold chgR
  rw [e]
set_option maxRecDepth 100000 in
theorem me_ch {C0 : co_T} {a : ac_T} {q : Nat} (hup : upE C0 C) (hA : wOk W) (hok : okA2 (wW W) 0 0 0 a) (hk : aKd a < 3) (ha : aTb a = some q) (hq : (wT W).1.1 q ≠ 0) (hQ : ACM C 40 a ∧ C.1 76 97 = 5) (H : MI C W) (hf : C.1 76 8 = 0) (h0 : C.1 76 89 = 0 ∧ C.1 76 74 = 0 ∧ C.1 76 93 = 0 ∧ C.1 76 95 = 0) : Wd L xs (d + 20) y_191 (51, [(1, .int (nI (totF (wR W) 6 0 0))), (0, .ref 176)], [], MH C t, sl) (PRm C0 t W sl (xChg W a)) nX := by
  have H1 := MI_1 (j := 2) (v := 0) (by omega) H
  have e : ∀ j, j ≠ 2 → (sI C 76 2 0).1 76 j = C.1 76 j := fun j hj => e2_o hj
  have w := m_248 (L := L) (xs := xs) (t := t) (d := d + 10) (sl := 0) (wt := fun j => decide ((sI C 76 2 0).1 91 j ≠ 0)) (okSt_w hA) (MSt_I hA H1.1) H1.2.1.1 H1.2.1.2 (ACM_o hQ.1 (fun k j _ => by rw [sI_1, if_neg (by omega)]) (fun _ => rfl)) hok hk ((e 89 (by omega)).trans h0.1) ((e 74 (by omega)).trans h0.2.1) ((e 93 (by omega)).trans h0.2.2.1) ((e 95 (by omega)).trans h0.2.2.2) (MWt_b H1.2.2.1.2.1)
  rw [chgR_x (p' := fun i => !xWt (wX W) i) (fun i hi hs => by rw [MWt_k H1.2.2.1.2.1 hi hs])] at w
  refine s_191 (d := d + 19) (s := 5) hf hQ.2 rfl w (fun v h q hq => ?_)
  obtain ⟨rfl, ⟨C', ⟨⟨c1, c2⟩, ⟨c3, c4⟩, c5, c6, c7⟩, rfl⟩, rfl⟩ := hq
  refine ⟨_, C', t, rfl, rfl, mEnd (d := d + 19) (r := xChg W a) (upE_t hup (upE_t (upE_I (by omega)) (upE_k (fun k j hk => c7.1 k j (by omega) (by omega) (by omega) (by omega) (by omega)) (fun k j hk => c7.2.1 k j (by omega) (by omega) (by omega) (by omega)) c7.2.2))) (xChg_ok hA ha hq) xChg_8 (MI_M c7 ⟨c1, c2⟩ c6 H1) ⟨fun z => (chgR_1 z).elim, fun z => c5.1 z, fun z => c5.2 z, c3, c4⟩ ?_⟩
  rw [c7.1 76 2 (by omega) (by omega) (by omega) (by omega) (by omega), sI_1, if_pos ⟨rfl, rfl⟩]
/-! a trigger's flag -/
set_option maxRecDepth 100000 in
theorem MI_G {x : Int32} {G : Option tr_T} (hg : g < 8) (hG : opM (TRM C g) x G) (hn : ∀ u, G = some u → C.1 105 g = nI (ndG (some u))) (H : MI C W) : MI (sI C 95 g x) (wT W, upG (wG W) g G, W.2.2) := by
  obtain ⟨⟨h1, h1b, h1c⟩, h2, h3, h4, h5⟩ := H
  have e1 : ∀ k j, k ≠ 95 → (sI C 95 g x).1 k j = C.1 k j := fun k j hk => by rw [sI_1, if_neg (by omega)]
  refine ⟨⟨TM0_v h1 (e1 _ _ (by omega)) (e1 _ _ (by omega)) (fun k j a b c => e1 k j (by omega)) (fun _ _ _ _ => rfl), fun i hi => ?_, fun i u hi e => ?_⟩, ⟨fun b hb => ?_, fun q hq => (e1 118 q (by omega)).trans (h2.2 q hq)⟩, ⟨(e1 76 69 (by omega)).trans h3.1, MWt_e (fun j hj => e1 91 j (by omega)) h3.2.1, (e1 76 70 (by omega)).trans h3.2.2.1, h3.2.2.2⟩, ⟨fun z => RWs_c (fun i _ => e1 _ _ (by omega)) (fun _ _ => rfl) (fun i _ => ⟨e1 _ _ (by omega), e1 _ _ (by omega)⟩) (h4.1 z), fun j hj => RWs_c (fun i _ => e1 _ _ (by omega)) (fun _ _ => rfl) (fun i _ => ⟨e1 _ _ (by omega), e1 _ _ (by omega)⟩) (h4.2 j hj)⟩, ?_⟩
  · have ht : ∀ u, TRM C i u → TRM (sI C 95 g x) i u := fun u hu => TRM_o hu (fun k j hk => e1 k j (by omega)) (fun _ _ _ => rfl)
    show opM (TRM (sI C 95 g x) i) ((sI C 95 g x).1 95 i) (if i = g then G else wG W i)
    by_cases e : i = g
    · rw [if_pos e]
      subst e
      exact opM_m ht (by rw [sI_1, if_pos ⟨rfl, rfl⟩]) hG
    · rw [if_neg e]
      exact opM_m ht (by rw [sI_1, if_neg (fun z => e z.2)]) (h1b i hi)
  · have e : (if i = g then G else wG W i) = some u := e
    rw [e1 105 i (by omega)]
    by_cases z : i = g
    · rw [if_pos z] at e
      rw [z]
      exact hn u e
    · rw [if_neg z] at e
      exact h1c i u hi e
  · obtain ⟨a1, a2, a3, a4⟩ := h2.1 b hb
    exact ⟨a1, (e1 117 b (by omega)).trans a2, a3, fun k r hr => ⟨(e1 115 _ (by omega)).trans (a4 k r hr).1, (a4 k r hr).2⟩⟩
  · obtain ⟨z, hz⟩ := h5
    exact ⟨z, (e1 76 74 (by omega)).trans hz⟩
set_option maxRecDepth 100000 in
theorem me_39 {C0 : co_T} {G : tr_T} {i' : Nat} {nl' : Option Nat} (hup : upE C0 C) (hA : wAll W) (hW : wOk (xTrg W G).2.2) (hr : rTrg (tkP B n) (wT W).1 (wG W) 0 (nlW W) = .inr (G, i', nl')) (hl : lfM C nl') (hQ : (∃ g, g < 8 ∧ trN (wG W) = nI g ∧ TRM C g G ∧ C.1 105 g = C.1 76 42 ∧ C.1 76 60 = nI g ∧ C.1 76 43 = nI (ndS (wU W) (wG W))) ∧ C.1 76 97 = 2) (H : MI C W) (hf : C.1 76 8 = 0) (h0 : C.1 76 89 = 0 ∧ C.1 76 74 = 0 ∧ C.1 76 93 = 0 ∧ C.1 76 95 = 0) : Wd L xs (d + 20) y_191 (51, [(1, .int (nI (totF (wR W) 6 0 0))), (0, .ref 176)], [], MH C t, sl) (PRm C0 t W sl (xTrg W G)) nX := by
  obtain ⟨⟨g, g1, g2, g3, g4, g5, g6⟩, g7⟩ := hQ
  cases hx : xIn (wX W) with
  | true =>
    rw [xTrg_in hx]
    exact mNo (s := 2) hup hA.1 H hf h0 g7 (Or.inr ⟨by omega, by omega, hx⟩)
  | false =>
    rw [xTrg_out hx] at hW ⊢
    obtain ⟨s, e1, e2, e3, e4⟩ := trN_w (rTrg_s hr)
    have hs : s = g := (nK_inj (by omega) (by omega)).mp (e1.symm.trans g2)
    subst hs
    rw [e4] at hW ⊢
    have H1 := MI_1 (j := 2) (v := 0) (by omega) H
    have hn : C.1 105 s = nI (ndG (some G)) := by
      rcases rTrg_l hr with ⟨z, _⟩ | ⟨a, b, z1, z2, z3⟩
      · cases z
      · cases z1
        have z2 : nl' = some b := z2
        rw [z2] at hl
        obtain ⟨_, a', c, l1, l2, l3⟩ := hl
        have h4 := hA.1.2.2.1
        have : a' = ndS (wU W) (wG W) := (nK_inj (by omega) (by omega)).mp (l1.symm.trans g6)
        have z3 : 400 - ndS (wU W) (wG W) = b + ndG (some G) := z3
        rw [g4, l2]
        congr 1
        omega
    have e : ∀ j, j ≠ 2 → (sI C 76 2 0).1 76 j = C.1 76 j := fun j hj => e2_o hj
    refine o_191 (d := d + 19) (s := 2) hf g7 (by omega) (by omega) (by rw [H.2.2.1.1, hx]; rfl) (m_284_2 (d := d + 19) (sl := 0) ((e 97 (by omega)).trans g7) g1 ((e 60 (by omega)).trans g5)) (fun v h q hq => ?_)
    obtain ⟨rfl, rfl, rfl⟩ := hq
    refine ⟨nI 0, _, t, rfl, rfl, mEnd (d := d + 19) (r := xOk (wT W, upG (wG W) s (some G), W.2.2)) (upE_t hup (upE_t (upE_I (by omega)) (upE_I (by omega)))) hW (by show 0 < 8; omega) (MI_G g1 ⟨rfl, TRM_o g3 (fun k j hk => by rw [sI_1, if_neg (by omega)]) (fun _ _ _ => rfl)⟩ (fun u hu => by cases hu; rw [sI_1, if_neg (by omega)]; exact hn) H1) (vM0 (Or.inl rfl) ?_ ?_) ?_⟩
    · rw [sI_1, if_neg (by omega), e 93 (by omega)]; exact h0.2.2.1
    · rw [sI_1, if_neg (by omega), e 95 (by omega)]; exact h0.2.2.2
    · rw [sI_1, if_neg (by omega), sI_1, if_pos ⟨rfl, rfl⟩]
/-! a table goes -/
set_option maxRecDepth 100000 in
theorem RfM_I (hA : wOk W) (H : MSc C W) : RfM C (wU W) := fun j hj => by
  rcases H.1.2.2.1 j hj with ⟨e1, e2⟩ | ⟨u, e1, e2, e3, e4⟩
  · rw [show wU W j = none from e1]; exact e2
  · rw [show wU W j = some u from e1]
    obtain ⟨o1, o2⟩ := hA.1.2 j u e1
    refine ⟨e4, ⟨e2.1.2.1, o1.1.2.1⟩, ⟨e2.1.1, by have := o1.1.1; omega⟩, e2.1.2.2.1, fun q hq => ⟨(o2.2 q hq).1, ?_⟩⟩
    by_cases z : rKd u = 4
    · exact z
    · rw [o1.2.2.1 z] at hq
      cases hq
set_option maxRecDepth 100000 in
theorem GfM_I (hA : wOk W) (H : MSc C W) : GfM C (wG W) := fun j hj => by
  have := H.2.1 j hj
  cases e : wG W j with
  | none => rw [e] at this; exact this
  | some u =>
    rw [e] at this
    obtain ⟨o1, o2⟩ := hA.2.1 j u e
    exact ⟨this.1, ⟨this.2.1.1, o1.1⟩, this.2.1.2.2.2.2.1, fun q hq => (o2.2.1 q hq).1⟩
set_option maxRecDepth 100000 in
theorem drU_n {j : Nat} (h : wU W j = none) : wU (drW W b) j = none := by
  have e : (wT W).2.2 j = none := h
  show (match (wT W).2.2 j with
    | none => none
    | some u => if rTb u = b then none else some u) = none
  rw [e]
set_option maxRecDepth 100000 in
theorem MI_dp (hA : wOk W) (hb : b < 6) (hx : xIn (wX W) = false) (h1 : flU (dmC C b) C1 83 24 (fun j => ck ((wU W j).isSome && !decide ((wU W j).map rTb = some b)))) (h2 : flU C1 C2 95 8 (fun j => ck ((wG W j).isSome && !decide ((wG W j).map gTb = some b)))) (H : MI C W) : MI C2 (drW W b) := by
  obtain ⟨⟨⟨t1, t2, t3, t4⟩, h1b, h1c⟩, h2', h3, h4, h5⟩ := H
  have eI : ∀ k j, k ≠ 83 → k ≠ 95 → C2.1 k j = (dmC C b).1 k j := fun k j a b => (h2.1 k j (by omega)).trans (h1.1 k j (by omega))
  have eJ : ∀ k j, C2.2.1 k j = C.2.1 k j := fun k j => by rw [h2.2.2, h1.2.2]; rfl
  have ed : ∀ k j, ¬ ((k = 78 ∨ k = 117 ∨ k = 118) ∧ j = b) → (dmC C b).1 k j = C.1 k j := fun k j h => by
    unfold dmC
    rw [sI_1, if_neg (by omega), sI_1, if_neg (by omega), sI_1, if_neg (by omega)]
  have d78 : (dmC C b).1 78 b = 0 := by unfold dmC; rw [sI_1, if_neg (by omega), sI_1, if_neg (by omega), sI_1, if_pos ⟨rfl, rfl⟩]
  have d117 : (dmC C b).1 117 b = 0 := by unfold dmC; rw [sI_1, if_neg (by omega), sI_1, if_pos ⟨rfl, rfl⟩]
  have d118 : (dmC C b).1 118 b = 1 := by unfold dmC; rw [sI_1, if_pos ⟨rfl, rfl⟩]
  have e : ∀ k j, k ≠ 83 → k ≠ 95 → ¬ ((k = 78 ∨ k = 117 ∨ k = 118) ∧ j = b) → C2.1 k j = C.1 k j := fun k j a b c => (eI k j a b).trans (ed k j c)
  have tn1 : ∀ q, (drW W b).1.1.1 q = if q = b then 0 else (wT W).1.1 q := fun q => rfl
  have wd1 : ∀ q, (drW W b).1.1.2.1 q = if q = b then 0 else (wT W).1.2.1 q := fun q => rfl
  refine ⟨⟨⟨fun q hq hz => ?_, fun q hq hz => ?_, fun r hr => ?_, ?_⟩, fun i hi => ?_, fun i u hi hu => ?_⟩, ⟨fun q hq => ⟨?_, ?_, ?_, fun k r hr => ?_⟩, fun q hq => ?_⟩, ⟨(e 76 69 (by omega) (by omega) (by omega)).trans h3.1, MWt_d (ru := wU W) (fun j hn hz => hn (drU_n hz)) (MWt_e (fun j hj => e 91 j (by omega) (by omega) (by omega)) h3.2.1), (e 76 70 (by omega) (by omega) (by omega)).trans h3.2.2.1, h3.2.2.2.1, fun j hj => (eJ 123 j).trans (h3.2.2.2.2 j hj)⟩, ⟨fun z => (by have z : xIn (wX W) = true := z; rw [hx] at z; cases z), fun j hj => (by have hj : j < (xMk (wX W)).1 := hj; rw [(hA.2.2.2.1.2.1 hx).2] at hj; omega)⟩, ?_⟩
  · have hz : (drW W b).1.1.1 q ≠ 0 := hz
    rw [tn1] at hz
    have hne : q ≠ b := fun z => hz (if_pos z)
    rw [if_neg hne] at hz
    obtain ⟨g1, g2, g3, g4⟩ := t1 q hq hz
    have ew : (drW W b).1.1.2.1 q = (wT W).1.2.1 q := by rw [wd1, if_neg hne]
    have et : (drW W b).1.1.1 q = (wT W).1.1 q := by rw [tn1, if_neg hne]
    refine ⟨(e 78 q (by omega) (by omega) (by omega)).trans g1, ?_, ⟨hq, ?_, ?_, fun c hc => ?_⟩, fun c hc => ?_⟩
    · show C2.2.1 79 q = (drW W b).1.1.1 q
      rw [et, eJ]; exact g2
    · show C2.1 80 q = nI ((drW W b).1.1.2.1 q)
      rw [ew, e 80 q (by omega) (by omega) (by omega)]; exact g3.2.1
    · show (drW W b).1.1.2.1 q ≤ 6
      rw [ew]; exact g3.2.2.1
    · have hc : c < (drW W b).1.1.2.1 q := hc
      rw [ew] at hc
      rw [eJ]; exact g3.2.2.2 c hc
    · have hc : c < (drW W b).1.1.2.1 q := hc
      rw [ew] at hc
      rw [eJ]; exact g4 c hc
  · have hz : (drW W b).1.1.1 q = 0 := hz
    rw [tn1] at hz
    by_cases hne : q = b
    · rw [eI 78 q (by omega) (by omega), hne]; exact d78
    · rw [if_neg hne] at hz
      exact (e 78 q (by omega) (by omega) (by omega)).trans (t2 q hq hz)
  · have ef : C2.1 83 r = ck ((wU W r).isSome && !decide ((wU W r).map rTb = some b)) := (h2.1 83 r (by omega)).trans (h1.2.1 r hr)
    show ((match (wT W).2.2 r with
      | none => none
      | some v => if rTb v = b then none else some v) = none ∧ C2.1 83 r = 0) ∨ ∃ u, (match (wT W).2.2 r with
      | none => none
      | some v => if rTb v = b then none else some v) = some u ∧ RUM C2 r u ∧ okq u ∧ C2.1 83 r = 1
    rcases t3 r hr with ⟨e1, e2⟩ | ⟨u, e1, e2, e3, e4⟩
    · rw [show wU W r = none from e1] at ef
      rw [e1]
      exact Or.inl ⟨rfl, ef⟩
    · rw [show wU W r = some u from e1] at ef
      rw [e1]
      by_cases z : rTb u = b
      · refine Or.inl ⟨if_pos z, ?_⟩
        rw [ef, show decide ((some u).map rTb = some b) = true from decide_eq_true (by rw [← z]; rfl)]
        rfl
      · refine Or.inr ⟨u, if_neg z, RUM_l (fun j _ => ⟨e 106 _ (by omega) (by omega) (by omega), eJ 107 _⟩) (fun k a b c d f => e k r (by omega) (by omega) (by omega)) (fun k j a b => e k _ (by omega) (by omega) (by omega)) (e 113 r (by omega) (by omega) (by omega)) e3 e2, e3, ?_⟩
        rw [ef, show decide ((some u).map rTb = some b) = false from decide_eq_false (fun y => z (by injection y))]
        rfl
  · rw [e 76 48 (by omega) (by omega) (by omega), e 76 49 (by omega) (by omega) (by omega)]; exact t4
  · have ef : C2.1 95 i = ck ((wG W i).isSome && !decide ((wG W i).map gTb = some b)) := h2.2.1 i hi
    show opM (TRM C2 i) (C2.1 95 i) (match wG W i with
      | none => none
      | some v => if gTb v = b then none else some v)
    have := h1b i hi
    cases e1 : wG W i with
    | none => rw [e1] at ef; exact ef
    | some u =>
      rw [e1] at ef this
      by_cases z : gTb u = b
      · show opM (TRM C2 i) (C2.1 95 i) (if gTb u = b then none else some u)
        rw [if_pos z]
        show C2.1 95 i = 0
        rw [ef, show decide ((some u).map gTb = some b) = true from decide_eq_true (by rw [← z]; rfl)]
        rfl
      · show opM (TRM C2 i) (C2.1 95 i) (if gTb u = b then none else some u)
        rw [if_neg z]
        refine ⟨?_, TRM_o this.2 (fun k j hk => e k j (by omega) (by omega) (by omega)) (fun k j _ => eJ k j)⟩
        rw [ef, show decide ((some u).map gTb = some b) = false from decide_eq_false (fun y => z (by injection y))]
        rfl
  · have hu := (drG_s hu).1
    exact (e 105 i (by omega) (by omega) (by omega)).trans (h1c i u hi hu)
  · show (drW W b).1.1.2.1 q ≤ 6
    rw [wd1]
    split
    · omega
    · exact (h2'.1 q hq).1
  · show C2.1 117 q = nI (rsU (wR W) b ([], 0) q).1.length
    unfold rsU
    by_cases z : q = b
    · rw [if_pos z, eI 117 q (by omega) (by omega), z]; exact d117
    · rw [if_neg z, e 117 q (by omega) (by omega) (by omega)]; exact (h2'.1 q hq).2.1
  · show (rsU (wR W) b ([], 0) q).1.length ≤ 40
    unfold rsU
    split
    · exact Nat.zero_le 40
    · exact (h2'.1 q hq).2.2.1
  · have hr : (rsU (wR W) b ([], 0) q).1[k]? = some r := hr
    unfold rsU at hr
    split at hr
    · cases hr
    · rename_i z
      obtain ⟨z1, z2⟩ := (h2'.1 q hq).2.2.2 k r hr
      refine ⟨(e 115 _ (by omega) (by omega) (by omega)).trans z1, fun c hc => (eJ 116 _).trans (z2 c ?_)⟩
      have hc : c < (drW W b).1.1.2.1 q := hc
      rw [wd1, if_neg z] at hc
      exact hc
  · show C2.1 118 q = (rsU (wR W) b ([], 0) q).2 + 1
    unfold rsU
    by_cases z : q = b
    · rw [if_pos z, eI 118 q (by omega) (by omega), z, d118]; rfl
    · rw [if_neg z, e 118 q (by omega) (by omega) (by omega)]; exact h2'.2 q hq
  · obtain ⟨z, hz⟩ := h5
    exact ⟨z, (e 76 74 (by omega) (by omega) (by omega)).trans hz⟩
end MVB
