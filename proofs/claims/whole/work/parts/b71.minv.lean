
/-! THE OTHER SIDE AND THE WORLD: what it keeps between calls -/
section MIF
variable {C C' : co_T} {p a r g b k j : Nat} {u : ru_T} {G : tr_T} {U V : Nat → Prop} {wd : Nat → Nat} {rs : rs_T} {W : wo_T} {T : tb_S}
/-! a program stays -/
def agP (C C' : co_T) (p : Nat) : Prop := ∀ j, j < 620 → C'.1 106 (620 * p + j) = C.1 106 (620 * p + j) ∧ C'.2.1 107 (620 * p + j) = C.2.1 107 (620 * p + j)
set_option maxRecDepth 100000 in
theorem foM_l {O : List op_T} (h : agP C C' p) (hl : a + O.length ≤ 620) (F : foM C p a O) : foM C' p a O := fun j q hj => by
  have := get_lt hj
  rw [(h (a + j) (by omega)).1, (h (a + j) (by omega)).2]
  exact F j q hj
set_option maxRecDepth 100000 in
theorem itM_l {l : List it_T} (h : agP C C' p) (hl : a + l.length ≤ 620) (F : itM C p a l) : itM C' p a l := fun j x hj => by
  have := get_lt hj
  have hF := F j x hj
  rw [(h (a + j) (by omega)).1, (h (a + j) (by omega)).2]
  exact hF
set_option maxRecDepth 100000 in
theorem whM_l {O : Option (List op_T)} (h : agP C C' p) (hI : ∀ k, 110 ≤ k → k ≤ 113 → C'.1 k p = C.1 k p) (F : whM C p a O) : whM C' p a O := by
  cases O with
  | none => exact ⟨(hI 112 (by omega) (by omega)).trans F.1, (hI 113 (by omega) (by omega)).trans F.2⟩
  | some O => exact ⟨(hI 112 (by omega) (by omega)).trans F.1, (hI 113 (by omega) (by omega)).trans F.2.1, F.2.2.1, foM_l h (by have := F.2.2.1; omega) F.2.2.2⟩
set_option maxRecDepth 100000 in
theorem ACM_l {a : ac_T} (h : agP C C' p) (hI : ∀ k, 110 ≤ k → k ≤ 113 → C'.1 k p = C.1 k p) (A : ACM C p a) : ACM C' p a :=
  ⟨(hI 110 (by omega) (by omega)).trans A.1, (hI 111 (by omega) (by omega)).trans A.2.1, fun e => ⟨(hI 113 (by omega) (by omega)).trans (A.2.2.1 e).1, (A.2.2.1 e).2.1, itM_l h (by have := (A.2.2.1 e).2.1; omega) (A.2.2.1 e).2.2⟩, fun e => ⟨(A.2.2.2.1 e).1, itM_l h (by have := (A.2.2.2.1 e).1; omega) (A.2.2.2.1 e).2.1, whM_l h hI (A.2.2.2.1 e).2.2⟩, fun e => whM_l h hI (A.2.2.2.2 e)⟩
set_option maxRecDepth 100000 in
theorem TRM_l (h24 : agP C C' (24 + g)) (h32 : agP C C' (32 + g)) (hI : ∀ k, 97 ≤ k → k ≤ 104 → C'.1 k g = C.1 k g) (hJ : ∀ k, k = 96 ∨ k = 103 → C'.2.1 k g = C.2.1 k g) (h1 : ∀ k, 110 ≤ k → k ≤ 113 → C'.1 k (24 + g) = C.1 k (24 + g)) (h2 : ∀ k, 110 ≤ k → k ≤ 113 → C'.1 k (32 + g) = C.1 k (32 + g)) (ok : okG wd G) (H : TRM C g G) : TRM C' g G := by
  obtain ⟨⟨a1, a2, a3, a4, a5, a6⟩, b1, b2, b3, b4⟩ := H
  refine ⟨⟨(hI 97 (by omega) (by omega)).trans a1, (hI 98 (by omega) (by omega)).trans a2, (hI 99 (by omega) (by omega)).trans a3, (hI 100 (by omega) (by omega)).trans a4, (hI 101 (by omega) (by omega)).trans a5, (hJ 96 (by omega)).trans a6⟩, ?_, fun e => ACM_l h32 h2 (b2 e), fun c l u1 u2 u3 => ⟨(hI 102 (by omega) (by omega)).trans (b3 c l u1 u2 u3).1, (h2 113 (by omega) (by omega)).trans (b3 c l u1 u2 u3).2.1, foM_l h32 ?_ (b3 c l u1 u2 u3).2.2⟩, fun e => by rw [hJ 103 (by omega)]; exact b4 e⟩
  · cases e : gWh G with
    | none =>
      rw [e] at b1
      exact (hI 104 (by omega) (by omega)).trans b1
    | some O =>
      rw [e] at b1
      have hl := ok.2.2.2.1
      rw [e] at hl
      exact ⟨(hI 104 (by omega) (by omega)).trans b1.1, (h1 113 (by omega) (by omega)).trans b1.2.1, foM_l h24 (by have := hl.1; omega) b1.2.2⟩
  · rcases ok.2.2.2.2 with ⟨k, _⟩ | ⟨k, _⟩ | ⟨k, _⟩ | ⟨k, _, c', l', e1, e2, e3, e4⟩ | ⟨k, _⟩
    · omega
    · omega
    · omega
    · rw [u3] at e2
      injection e2 with e2 _
      injection e2 with e2
      rw [e2]
      have := e4.1
      omega
    · omega
set_option maxRecDepth 100000 in
theorem RUM_l (h : agP C C' r) (hI : ∀ k, 84 ≤ k → k ≤ 94 → k ≠ 88 → k ≠ 89 → k ≠ 91 → C'.1 k r = C.1 k r) (h8 : ∀ k j, k = 88 ∨ k = 89 → j < 6 → C'.1 k (6 * r + j) = C.1 k (6 * r + j)) (h1 : C'.1 113 r = C.1 113 r) (ok : okq u) (H : RUM C r u) : RUM C' r u := by
  obtain ⟨⟨a1, a2, a3, a4, a5, a6⟩, ⟨b1, b2, b3⟩, c1, c2⟩ := H
  refine ⟨⟨(hI 84 (by omega) (by omega) (by omega) (by omega) (by omega)).trans a1, (hI 85 (by omega) (by omega) (by omega) (by omega) (by omega)).trans a2, (hI 86 (by omega) (by omega) (by omega) (by omega) (by omega)).trans a3, (hI 87 (by omega) (by omega) (by omega) (by omega) (by omega)).trans a4, fun j c hj => ?_, fun j c hj => ?_⟩, ⟨(hI 90 (by omega) (by omega) (by omega) (by omega) (by omega)).trans b1, (hI 92 (by omega) (by omega) (by omega) (by omega) (by omega)).trans b2, (hI 93 (by omega) (by omega) (by omega) (by omega) (by omega)).trans b3⟩, fun O e => ⟨h1.trans (c1 O e).1, foM_l h (by have := ok.2.2 O e; omega) (c1 O e).2.1, (hI 94 (by omega) (by omega) (by omega) (by omega) (by omega)).trans (c1 O e).2.2⟩, fun e => (hI 94 (by omega) (by omega) (by omega) (by omega) (by omega)).trans (c2 e)⟩
  · have := get_lt hj
    rw [h8 88 j (by omega) (by have := ok.1; omega)]
    exact a5 j c hj
  · have := get_lt hj
    rw [h8 89 j (by omega) (by have := ok.2.1; omega)]
    exact a6 j c hj
/-! tables, rules, triggers as the other side keeps them -/
def MSc (C : co_T) (W : wo_T) : Prop := TM0 C (wT W) ∧ TGM C (wG W) ∧ ∀ g u, g < 8 → wG W g = some u → C.1 105 g = nI (ndG (some u))
def MRo (C : co_T) (wd : Nat → Nat) (rs : rs_T) : Prop := RWM C wd rs ∧ ∀ q, q < 6 → C.1 118 q = (rs q).2 + 1
def MWt (C : co_T) (ru : Nat → Option ru_T) (X : tx_T) : Prop := (∀ j, j < 24 → C.1 91 j = 0 ∨ C.1 91 j = 1) ∧ ∀ j, j < 24 → ru j ≠ none → C.1 91 j = ck (xWt X j)
def MTx (C : co_T) (ru : Nat → Option ru_T) (X : tx_T) : Prop := C.1 76 69 = ck (xIn X) ∧ MWt C ru X ∧ MKM C (xMk X)
def MAs (C : co_T) (wd : Nat → Nat) (X : tx_T) : Prop := (xIn X = true → RWs C 119 (240 * 1) (1440 * 1) (6 * 1) wd (x0 X)) ∧ ∀ j, j < (xMk X).1 → RWs C 119 (240 * (2 + j)) (1440 * (2 + j)) (6 * (2 + j)) wd (xMr X j)
def MI (C : co_T) (W : wo_T) : Prop := MSc C W ∧ MRo C (wW W) (wR W) ∧ MTx C (wU W) (wX W) ∧ MAs C (wW W) (wX W) ∧ ∃ z, C.1 76 74 = ck z
/-! as the engine wants it -/
set_option maxRecDepth 100000 in
theorem MSt_I (hA : wOk W) (H : MSc C W) : MSt C (wS W) := by
  obtain ⟨⟨t1, t2, t3, t4⟩, h2, h3⟩ := H
  have hn : ∀ b, b < 6 → 0 < (wT W).1.2.1 b → (wT W).1.1 b ≠ 0 := fun b hb hp hz => by
    have := (hA.1.1 b hb).2.2 hz
    omega
  refine ⟨fun b hb => ⟨fun hp => (t1 b hb (hn b hb hp)).2.2.1.2.1, fun c hc => ?_⟩, fun i hi => ?_, h2⟩
  · have hc : c < (wT W).1.2.1 b := hc
    have := (t1 b hb (hn b hb (by omega))).2.2.2 c hc
    rw [show b * 6 + c = 6 * b + c by omega]
    exact this
  · show opM (RUM C i) (C.1 83 i) ((wT W).2.2 i)
    rcases t3 i hi with ⟨e1, e2⟩ | ⟨u, e1, e2, e3, e4⟩
    · rw [e1]; exact e2
    · rw [e1]; exact ⟨e4, e2⟩
set_option maxRecDepth 100000 in
theorem NDM_I (H : MSc C W) : NDM C (wU W) (wG W) := by
  obtain ⟨⟨t1, t2, t3, t4⟩, h2, h3⟩ := H
  refine ⟨fun r hr => ?_, fun g hg => ?_⟩
  · rcases t3 r hr with ⟨e1, e2⟩ | ⟨u, e1, e2, e3, e4⟩
    · exact Or.inl ⟨e1, e2⟩
    · refine Or.inr ⟨u, e1, e4, ?_⟩
      cases hc : rCk u with
      | none =>
        show _ = nI (ndF (rCk u))
        rw [e2.2.2.2 hc, hc]; rfl
      | some O =>
        show _ = nI (ndF (rCk u))
        rw [(e2.2.2.1 O hc).2.2, hc]; rfl
  · have := h2 g hg
    cases e : wG W g with
    | none =>
      rw [e] at this
      exact Or.inl ⟨rfl, this⟩
    | some u =>
      rw [e] at this
      exact Or.inr ⟨u, rfl, this.1, h3 g u hg e⟩
set_option maxRecDepth 100000 in
theorem SCM_I (H : MSc C W) : SCM C (wT W).1 := fun b hb => by
  obtain ⟨⟨t1, t2, _⟩, _⟩ := H
  refine ⟨?_, fun hz => ?_⟩
  · by_cases hz : (wT W).1.1 b = 0
    · rw [t2 b hb hz, decide_eq_false (fun e => e hz)]; rfl
    · rw [(t1 b hb hz).1, decide_eq_true hz]; rfl
  · obtain ⟨_, a2, a3, _⟩ := t1 b hb hz
    exact ⟨a2, a3.2.1, a3.2.2.1, a3.2.2.2⟩
set_option maxRecDepth 100000 in
theorem RGM_I (H : MSc C W) : RGM C (wU W) := fun r hr => by
  rcases H.1.2.2.1 r hr with ⟨e1, e2⟩ | ⟨u, e1, e2, e3, e4⟩
  · exact Or.inl ⟨e1, e2⟩
  · exact Or.inr ⟨u, e1, e4, e2.2.1.1⟩
/-! a reading leaves what stands -/
def uvW (W : wo_T) (U V : Nat → Prop) : Prop := (∀ r, r < 24 → wU W r ≠ none → ¬ U r) ∧ (∀ g, g < 8 → wG W g ≠ none → ¬ U (24 + g) ∧ ¬ U (32 + g)) ∧ ∀ b, b < 6 → (wT W).1.1 b ≠ 0 → ¬ V b
set_option maxRecDepth 100000 in
theorem fX_P (h : fX U V C C') (hp : ¬ U p) : agP C C' p := fun j hj => by
  have e : (620 * p + j) / 620 = p := by omega
  refine ⟨h.1 106 _ (fun z => ?_) (by omega), h.2.1 107 _ (fun z => ?_) (by omega)⟩
  · unfold sxI at z
    rw [e] at z
    rcases z with z | z | z | z | z | z | z | z
    · omega
    · omega
    · exact hp z.2
    · omega
    · omega
    · omega
    · omega
    · omega
  · unfold sxJ at z
    rw [e] at z
    rcases z with z | z | z | z | z | z
    · omega
    · omega
    · exact hp z.2
    · omega
    · omega
    · omega
set_option maxRecDepth 100000 in
theorem fX_a (h : fX U V C C') (hk : k = 77 ∨ k = 78 ∨ k = 83 ∨ k = 95 ∨ (115 ≤ k ∧ k ≤ 138)) : C'.1 k j = C.1 k j := h.1 k j (fun z => by unfold sxI at z; omega) (by omega)
set_option maxRecDepth 100000 in
theorem fX_a2 (h : fX U V C C') (hk : 108 ≤ k ∧ k ≠ 109) : C'.2.1 k j = C.2.1 k j := h.2.1 k j (fun z => by unfold sxJ at z; omega) (by omega)
set_option maxRecDepth 100000 in
theorem fX_f (h : fX U V C C') (hj : ¬ (3 ≤ j ∧ j ≤ 9 ∨ 40 ≤ j ∧ j ≤ 49 ∨ j = 52 ∨ j = 57 ∨ j = 58 ∨ j = 60 ∨ j = 97 ∨ j = 98)) : C'.1 76 j = C.1 76 j := h.1 76 j (fun z => by unfold sxI at z; omega) (by omega)
set_option maxRecDepth 100000 in
theorem fX_r (h : fX U V C C') {r : Nat} (hr : ¬ U r) (hk : 84 ≤ k ∧ k ≤ 94 ∧ k ≠ 88 ∧ k ≠ 89) : C'.1 k r = C.1 k r := h.1 k r (fun z => by
  unfold sxI at z
  rcases z with z | z | z | z | z | z | z | z
  · omega
  · omega
  · omega
  · omega
  · exact hr z.2
  · omega
  · omega
  · omega) (by omega)
set_option maxRecDepth 100000 in
theorem fX_p (h : fX U V C C') (hr : ¬ U p) (hk : 110 ≤ k ∧ k ≤ 113) : C'.1 k p = C.1 k p := h.1 k p (fun z => by
  unfold sxI at z
  rcases z with z | z | z | z | z | z | z | z
  · omega
  · omega
  · omega
  · exact hr z.2
  · omega
  · omega
  · omega
  · omega) (by omega)
set_option maxRecDepth 100000 in
theorem fX_c (h : fX U V C C') {r : Nat} (hr : ¬ U r) (hk : k = 88 ∨ k = 89) (hj : j < 6) : C'.1 k (6 * r + j) = C.1 k (6 * r + j) := h.1 k _ (fun z => by
  have e : (6 * r + j) / 6 = r := by omega
  unfold sxI at z
  rw [e] at z
  rcases z with z | z | z | z | z | z | z | z
  · omega
  · omega
  · omega
  · omega
  · omega
  · exact hr z.2
  · omega
  · omega) (by omega)
set_option maxRecDepth 100000 in
theorem fX_g (h : fX U V C C') (hr : ¬ U (32 + g)) (hk : 97 ≤ k ∧ k ≤ 105) : C'.1 k g = C.1 k g := h.1 k g (fun z => by
  unfold sxI at z
  rcases z with z | z | z | z | z | z | z | z
  · omega
  · omega
  · omega
  · omega
  · omega
  · omega
  · exact hr z.2
  · omega) (by omega)
set_option maxRecDepth 100000 in
theorem fX_g2 (h : fX U V C C') (hr : ¬ U (32 + g)) (hk : k = 96 ∨ k = 103) : C'.2.1 k g = C.2.1 k g := h.2.1 k g (fun z => by
  unfold sxJ at z
  rcases z with z | z | z | z | z | z
  · omega
  · omega
  · omega
  · exact hr z.2
  · omega
  · omega) (by omega)
set_option maxRecDepth 100000 in
theorem fX_v (h : fX U V C C') (hr : ¬ V b) : C'.1 80 b = C.1 80 b ∧ C'.2.1 79 b = C.2.1 79 b := ⟨h.1 80 b (fun z => by
  unfold sxI at z
  rcases z with z | z | z | z | z | z | z | z
  · omega
  · omega
  · omega
  · omega
  · omega
  · omega
  · omega
  · exact hr z.2) (by omega), h.2.1 79 b (fun z => by
  unfold sxJ at z
  rcases z with z | z | z | z | z | z
  · omega
  · omega
  · omega
  · omega
  · exact hr z.2
  · omega) (by omega)⟩
set_option maxRecDepth 100000 in
theorem fX_w (h : fX U V C C') (hr : ¬ V b) (hk : k = 81 ∨ k = 82) (hj : j < 6) : C'.2.1 k (6 * b + j) = C.2.1 k (6 * b + j) := h.2.1 k _ (fun z => by
  have e : (6 * b + j) / 6 = b := by omega
  unfold sxJ at z
  rw [e] at z
  rcases z with z | z | z | z | z | z
  · omega
  · omega
  · omega
  · omega
  · omega
  · exact hr z.2) (by omega)
set_option maxRecDepth 100000 in
theorem MSc_X (hA : wOk W) (huv : uvW W U V) (f : fX U V C C') (H : MSc C W) : MSc C' W := by
  obtain ⟨⟨t1, t2, t3, t4⟩, h2, h3⟩ := H
  obtain ⟨u1, u2, u3⟩ := huv
  refine ⟨⟨fun q hq hz => ?_, fun q hq hz => (fX_a f (by omega)).trans (t2 q hq hz), fun r hr => ?_, f.2.2.2.1 t4⟩, fun g hg => ?_, fun g u hg e => ?_⟩
  · obtain ⟨a1, a2, a3, a4⟩ := t1 q hq hz
    have hv := u3 q hq hz
    refine ⟨(fX_a f (by omega)).trans a1, (fX_v f hv).2.trans a2, ⟨hq, (fX_v f hv).1.trans a3.2.1, a3.2.2.1, fun c hc => (fX_w f hv (by omega) (by have := a3.2.2.1; omega)).trans (a3.2.2.2 c hc)⟩, fun c hc => (fX_w f hv (by omega) (by have := a3.2.2.1; omega)).trans (a4 c hc)⟩
  · rcases t3 r hr with ⟨e1, e2⟩ | ⟨u, e1, e2, e3, e4⟩
    · exact Or.inl ⟨e1, (fX_a f (by omega)).trans e2⟩
    · have hu := u1 r hr (by rw [show wU W r = some u from e1]; intro z; cases z)
      exact Or.inr ⟨u, e1, RUM_l (fX_P f hu) (fun k a b c d _ => fX_r f hu ⟨a, b, c, d⟩) (fun k j hk hj => fX_c f hu hk hj) (fX_p f hu (by omega)) e3 e2, e3, (fX_a f (by omega)).trans e4⟩
  · have := h2 g hg
    cases e : wG W g with
    | none =>
      rw [e] at this
      exact (fX_a f (by omega)).trans this
    | some u =>
      rw [e] at this
      obtain ⟨v1, v2⟩ := u2 g hg (by rw [e]; intro z; cases z)
      exact ⟨(fX_a f (by omega)).trans this.1, TRM_l (fX_P f v1) (fX_P f v2) (fun k a b => fX_g f v2 (by omega)) (fun k hk => fX_g2 f v2 hk) (fun k a b => fX_p f v1 ⟨a, b⟩) (fun k a b => fX_p f v2 ⟨a, b⟩) (hA.2.1 g u e).1 this.2⟩
  · obtain ⟨v1, v2⟩ := u2 g hg (by rw [e]; intro z; cases z)
    exact (fX_g f v2 (by omega)).trans (h3 g u hg e)
set_option maxRecDepth 100000 in
theorem MWt_e {ru : Nat → Option ru_T} {X : tx_T} (h : ∀ j, j < 24 → C'.1 91 j = C.1 91 j) (H : MWt C ru X) : MWt C' ru X := ⟨fun j hj => by rw [h j hj]; exact H.1 j hj, fun j hj hn => (h j hj).trans (H.2 j hj hn)⟩
set_option maxRecDepth 100000 in
theorem MWt_a {ru : Nat → Option ru_T} {X : tx_T} (h : ∀ j, j < 24 → C.1 91 j = ck (xWt X j)) : MWt C ru X := ⟨fun j hj => by
  rw [h j hj]
  cases xWt X j
  · exact Or.inl rfl
  · exact Or.inr rfl, fun j hj _ => h j hj⟩
set_option maxRecDepth 100000 in
theorem MWt_b {ru : Nat → Option ru_T} {X : tx_T} (H : MWt C ru X) : ∀ j, j < 24 → C.1 91 j = ck (decide (C.1 91 j ≠ 0)) := fun j hj => by
  rcases H.1 j hj with e | e
  · rw [e]; rfl
  · rw [e]; rfl
set_option maxRecDepth 100000 in
theorem MWt_k {ru : Nat → Option ru_T} {X : tx_T} (H : MWt C ru X) (hj : j < 24) (hn : ru j ≠ none) : decide (C.1 91 j ≠ 0) = xWt X j := by
  rw [H.2 j hj hn]
  cases xWt X j <;> rfl
set_option maxRecDepth 100000 in
theorem MWt_d {ru ru' : Nat → Option ru_T} {X : tx_T} (h : ∀ j, ru' j ≠ none → ru j ≠ none) (H : MWt C ru X) : MWt C ru' X := ⟨H.1, fun j hj hn => H.2 j hj (h j hn)⟩
set_option maxRecDepth 100000 in
theorem MI_X (hA : wOk W) (huv : uvW W U V) (f : fX U V C C') (H : MI C W) : MI C' W := by
  obtain ⟨h1, h2, h3, h4, z, h5⟩ := H
  refine ⟨MSc_X hA huv f h1, ⟨fun b hb => ?_, fun q hq => (fX_a f (by omega)).trans (h2.2 q hq)⟩, ⟨(fX_f f (by omega)).trans h3.1, ⟨fun j hj => ?_, fun j hj hn => (fX_r f (huv.1 j hj hn) (by omega)).trans (h3.2.1.2 j hj hn)⟩, (fX_f f (by omega)).trans h3.2.2.1, h3.2.2.2.1, fun j hj => (fX_a2 f (by omega)).trans (h3.2.2.2.2 j hj)⟩, ⟨fun z => RWs_c (fun i _ => fX_a f (by omega)) (fun i _ => fX_a2 f (by omega)) (fun i _ => ⟨fX_a f (by omega), fX_a f (by omega)⟩) (h4.1 z), fun j hj => RWs_c (fun i _ => fX_a f (by omega)) (fun i _ => fX_a2 f (by omega)) (fun i _ => ⟨fX_a f (by omega), fX_a f (by omega)⟩) (h4.2 j hj)⟩, z, (fX_f f (by omega)).trans h5⟩
  · obtain ⟨a1, a2, a3, a4⟩ := h2.1 b hb
    exact ⟨a1, (fX_a f (by omega)).trans a2, a3, fun k r hr => ⟨(fX_a f (by omega)).trans (a4 k r hr).1, fun c hc => (fX_a2 f (by omega)).trans ((a4 k r hr).2 c hc)⟩⟩
  · rcases f.2.2.2.2 j with e | e
    · rw [e]; exact h3.2.1.1 j hj
    · exact Or.inl e
end MIF
